/-! the reference: questions of messages and frame -/
theorem lcs_P (a b : Nat → Nat) : ∀ n i j, i + j ≤ n → lcs a b i j ≤ lcs a b (i + 1) j ∧ lcs a b i j ≤ lcs a b i (j + 1) ∧ lcs a b (i + 1) j ≤ lcs a b i j + 1 ∧ lcs a b i (j + 1) ≤ lcs a b i j + 1
  | 0, i, j, h => by
    obtain rfl : i = 0 := by omega
    obtain rfl : j = 0 := by omega
    rw [lcs_z, lcs_z, lcs_0]
    omega
  | n + 1, i, j, h => by
    have A1 : lcs a b i j ≤ lcs a b (i + 1) j ∧ lcs a b (i + 1) j ≤ lcs a b i j + 1 := by
      match j, h with
      | 0, _ => rw [lcs_0, lcs_0]; omega
      | q + 1, h =>
        have ih := lcs_P a b n i q (by omega)
        have hs := lcs_step a b (i := i) (j := q + 1) (by omega)
        rw [show q + 1 - 1 = q by omega] at hs
        rw [hs]
        split
        · omega
        · split <;> omega
    have A2 : lcs a b i j ≤ lcs a b i (j + 1) ∧ lcs a b i (j + 1) ≤ lcs a b i j + 1 := by
      match i, h with
      | 0, _ => rw [lcs_z, lcs_z]; omega
      | p + 1, h =>
        have ih := lcs_P a b n p j (by omega)
        have hs := lcs_step a b (i := p) (j := j + 1) (by omega)
        rw [show j + 1 - 1 = j by omega] at hs
        rw [hs]
        split
        · omega
        · split <;> omega
    exact ⟨A1.1, A2.1, A1.2, A2.2⟩
theorem lcs_max (a b : Nat → Nat) {i j v : Nat} (hj : 1 ≤ j) (h1 : lcs a b i j ≤ v) (h2 : lcs a b (i + 1) (j - 1) ≤ v) (h3 : a i = b (j - 1) → lcs a b i (j - 1) + 1 ≤ v) (h4 : v = lcs a b i j ∨ v = lcs a b (i + 1) (j - 1) ∨ (a i = b (j - 1) ∧ v = lcs a b i (j - 1) + 1)) : v = lcs a b (i + 1) j := by
  have hs := lcs_step a b (i := i) hj
  have hP := lcs_P a b (i + (j - 1)) i (j - 1) (Nat.le_refl _)
  rw [show j - 1 + 1 = j by omega] at hP
  by_cases e : a i = b (j - 1)
  · rw [if_pos e] at hs
    have := h3 e
    rcases h4 with h | h | h <;> omega
  · rw [if_neg e] at hs
    split at hs
    · rcases h4 with h | h | h
      · omega
      · omega
      · exact absurd h.1 e
    · rcases h4 with h | h | h
      · omega
      · omega
      · exact absurd h.1 e
theorem lcs_li (a b : Nat → Nat) : ∀ i j, lcs a b i j ≤ i
  | 0, j => by rw [lcs_z]; exact Nat.le_refl 0
  | i + 1, 0 => by rw [lcs_0]; exact Nat.zero_le _
  | i + 1, j + 1 => by
    have h1 := lcs_li a b i j
    have h2 := (lcs_P a b _ i (j + 1) (Nat.le_refl _)).2.2.1
    have h3 := lcs_li a b i (j + 1)
    omega
theorem lcs_eq (a b : Nat → Nat) : ∀ n, lcs a b n n = n ↔ eqTo a b n = true
  | 0 => ⟨fun _ => rfl, fun _ => lcs_z a b 0⟩
  | n + 1 => by
    have ih := lcs_eq a b n
    have hs := lcs_step a b (i := n) (j := n + 1) (by omega)
    rw [show n + 1 - 1 = n by omega] at hs
    rw [eqTo_s, ← ih, hs]
    by_cases e : a n = b n
    · rw [if_pos e]
      exact ⟨fun h => ⟨by omega, e⟩, fun h => by omega⟩
    · rw [if_neg e]
      have h1 := lcs_li a b n (n + 1)
      have h2 := lcs_le a b (n + 1) n
      refine ⟨fun h => ?_, fun h => absurd h.2 e⟩
      split at h <;> omega

theorem d_MessageCoderModel_costByRanges_0 : decode prog_14_method_61_code 0 = .ok (.aload_n 0, 1) := by decide +kernel
theorem d_MessageCoderModel_costByRanges_1 : decode prog_14_method_61_code 1 = .ok (.invokevirtual 199, 3) := by decide +kernel
theorem d_MessageCoderModel_costByRanges_4 : decode prog_14_method_61_code 4 = .ok (.ireturn, 1) := by decide +kernel
set_option maxHeartbeats 4000000 in
set_option maxRecDepth 20000 in
theorem c_MessageCoderModel_costByRanges {P : xP} {F : xF} {z : Nat} {m : Nat} {th0 : Nat} {M : mcS} (hD : xMD F (m) (th0) (M)) (hI : mInv M) : xM P xy_MessageCoderModel_costByRanges [.ref m] F (z) 0 0 (fun r9 F9 z9 => r9 = some (.int (nI (hSum M.1.1))) ∧ z9 = z ∧ xMD F9 (m) (0) (M) ∧ (∀ a9 : Nat, (a9 < m ∨ m + 12 ≤ a9) → F9 a9 = F a9)) := by
  refine xM_i .int rfl (Nat.le_of_ble_eq_true rfl) (L0 := [some (.ref m)]) rfl rfl fun Θ hC hret => ?_
  have hag : ∀ a9 : Nat, (a9 < m ∨ m + 12 ≤ a9) → F a9 = F a9 := fun a9 _ => rfl
  obtain ⟨_, _, _, _, _, _, _, _, _, _, _, _, _, _, _, _, _, o0, -⟩ := id hD
  refine x_aload_n hC d_MessageCoderModel_costByRanges_0 rfl rfl ?_
  refine x_callV hC kv_MessageCoderModel_199 (c_MessageCoderModel_cost (hD := hD) (hI := hI)) o0 rfl rfl (by decide) rfl rfl rfl (Nat.le_of_ble_eq_true rfl) (by decide) d_MessageCoderModel_costByRanges_1 (fun r9 F9 z9 hp9 => ?_)
  obtain ⟨rfl, h9c, j0, hag9⟩ := hp9
  rw [h9c]
  clear h9c z9
  generalize F9 = F1 at *
  have hD : xMD F1 (m) (0) (M) := j0
  have hag : ∀ a9 : Nat, (a9 < m ∨ m + 12 ≤ a9) → F1 a9 = F a9 := fun a9 q0 => (hag9 a9 (by omega)).trans (hag a9 q0)
  have hg_1 := hag9
  clear hag9
  exact hret _ _ _ _ _ _ _ d_MessageCoderModel_costByRanges_4 (by decide) (by decide) rfl (⟨rfl, rfl, hD, hag⟩)

theorem d_MessageCoderModel_meanLength_0 : decode prog_14_method_63_code 0 = .ok (.aload_n 0, 1) := by decide +kernel
theorem d_MessageCoderModel_meanLength_1 : decode prog_14_method_63_code 1 = .ok (.invokevirtual 199, 3) := by decide +kernel
theorem d_MessageCoderModel_meanLength_4 : decode prog_14_method_63_code 4 = .ok (.i2d, 1) := by decide +kernel
theorem d_MessageCoderModel_meanLength_5 : decode prog_14_method_63_code 5 = .ok (.aload_n 0, 1) := by decide +kernel
theorem d_MessageCoderModel_meanLength_6 : decode prog_14_method_63_code 6 = .ok (.invokevirtual 158, 3) := by decide +kernel
theorem d_MessageCoderModel_meanLength_9 : decode prog_14_method_63_code 9 = .ok (.i2d, 1) := by decide +kernel
theorem d_MessageCoderModel_meanLength_10 : decode prog_14_method_63_code 10 = .ok (.ddiv, 1) := by decide +kernel
theorem d_MessageCoderModel_meanLength_11 : decode prog_14_method_63_code 11 = .ok (.dreturn, 1) := by decide +kernel
set_option maxHeartbeats 4000000 in
set_option maxRecDepth 20000 in
theorem c_MessageCoderModel_meanLength {P : xP} {F : xF} {z : Nat} {m : Nat} {th0 : Nat} {M : mcS} (hD : xMD F (m) (th0) (M)) (hI : mInv M) : xM P xy_MessageCoderModel_meanLength [.ref m] F (z) 0 0 (fun r9 F9 z9 => r9 = some (.double (FP.ddiv (FP.i2d (nI (hSum M.1.1))) (FP.i2d (nI (sumN M.1.1 8))))) ∧ z9 = z ∧ xMD F9 (m) (0) (M) ∧ (∀ a9 : Nat, (a9 < m ∨ m + 12 ≤ a9) → F9 a9 = F a9)) := by
  refine xM_d rfl (Nat.le_of_ble_eq_true rfl) (L0 := [some (.ref m)]) rfl rfl fun Θ hC hret => ?_
  have hag : ∀ a9 : Nat, (a9 < m ∨ m + 12 ≤ a9) → F a9 = F a9 := fun a9 _ => rfl
  obtain ⟨_, _, _, _, _, _, _, _, _, _, _, _, _, _, _, _, _, o0, -⟩ := id hD
  refine x_aload_n hC d_MessageCoderModel_meanLength_0 rfl rfl ?_
  refine x_callV hC kv_MessageCoderModel_199 (c_MessageCoderModel_cost (hD := hD) (hI := hI)) o0 rfl rfl (by decide) rfl rfl rfl (Nat.le_of_ble_eq_true rfl) (by decide) d_MessageCoderModel_meanLength_1 (fun r9 F9 z9 hp9 => ?_)
  obtain ⟨rfl, h9c, j0, hag9⟩ := hp9
  rw [h9c]
  clear h9c z9
  generalize F9 = F1 at *
  have hD : xMD F1 (m) (0) (M) := j0
  have hag : ∀ a9 : Nat, (a9 < m ∨ m + 12 ≤ a9) → F1 a9 = F a9 := fun a9 q0 => (hag9 a9 (by omega)).trans (hag a9 q0)
  have hg_1 := hag9
  clear hag9
  refine x_i2d hC d_MessageCoderModel_meanLength_4 ?_
  obtain ⟨A, S, past, ⟨pn, psg⟩, ⟨lnn, lsg⟩, sv, pp, un, ep, fc⟩ := M
  obtain ⟨rs, er, bm, dm, he, cn, g, l2, v3, r4, w5, b6, d7, b8, ln, ip, cs, o0, ga, h2, h3, h4, h5, h6, h7, h8, h9, hi, hcm, hg, hln, hip⟩ := id hD
  obtain ⟨iA, iP, iS, hu8, hup, hs1, hty, hlz, hic, hlc⟩ := id hI
  have o0 : F1 (m) = some (.inl (10, [.int (nI 0), .ref (m + 1), .int (nI (un)), .int (nI (sv)), .int rs, .ref (m + 2), .ref (m + 3), .ref (m + 4), .ref (m + 5), .ref (m + 6), .int (nI (bm)), .ref (m + 7), .int (nI (dm)), .ref (m + 8), .ref (m + 9), .int (nI (lnn)), .ref (m + 10), .int (nI (pn)), .int (nI (he)), .int er, .int ep, .int fc, .ref (m + 11), .int (nI (cn))])) := o0
  have ga : F1 (m + 1) = some (.inr (0, 4730, fun b9 => .int (nI (g b9)))) := ga
  have h2 : F1 (m + 2) = some (.inr (0, 8, fun b9 => .int (nI (l2 b9)))) := h2
  have h3 : F1 (m + 3) = some (.inr (0, 8, fun b9 => .int (nI (v3 b9)))) := h3
  have h4 : F1 (m + 4) = some (.inr (0, 8, fun b9 => .int (nI (r4 b9)))) := h4
  have h5 : F1 (m + 5) = some (.inr (0, 8, fun b9 => .int (nI (w5 b9)))) := h5
  have h6 : F1 (m + 6) = some (.inr (0, 112, fun b9 => .int (nI (b6 b9)))) := h6
  have h7 : F1 (m + 7) = some (.inr (0, 16, fun b9 => .int (nI (d7 b9)))) := h7
  have h8 : F1 (m + 8) = some (.inr (0, 17, fun b9 => .int (nI (b8 b9)))) := h8
  have h9 : F1 (m + 9) = some (.inr (1, 40, fun b9 => .int (nI (ln b9)))) := h9
  have hi : F1 (m + 10) = some (.inr (1, 60, fun b9 => .int (nI (ip b9)))) := hi
  have hcm : F1 (m + 11) = some (.inr (0, 183, fun b9 => .int (nI (cs b9)))) := hcm
  have hln : ∀ j, j < lnn → ln j = lsg j := hln
  have hip : ∀ j, j < pn → ip j = psg j := hip
  have iA : aInv A := iA
  have hu8 : un ≤ 8 := hu8
  have hup : un ≤ pp := hup
  have hs1 : sv ≤ 1 := hs1
  have hty : pn ≤ 60 := hty
  have hlz : lnn ≤ 32 := hlz
  have hr : rRow g A := hg.1
  have hs9 : hSum A.1 ≤ 5544 := hJ_sb (fun j9 hj9 => (iA.2.1 j9 hj9).2) (Nat.le_refl 7)
  have hs8 : sumN A.1 8 ≤ 99 * 8 := sumN_bd 99 8 (fun j9 hj9 => (iA.2.1 j9 hj9).2)
  have hs7 : 0 < sumN A.1 8 := by have := (iA.2.1 0 (by omega)).1; have h9 : A.1 0 ≤ sumN A.1 8 := (by show A.1 0 ≤ ((((((((0 + A.1 0) + A.1 1) + A.1 2) + A.1 3) + A.1 4) + A.1 5) + A.1 6) + A.1 7); omega); omega
  refine x_aload_n hC d_MessageCoderModel_meanLength_5 rfl rfl ?_
  refine x_callV hC kv_MessageCoderModel_158 (c_MessageCoderModel_total (o0 := o0) (ga := ga) (hw := hr.2.1) (hw9 := fun j hj => (iA.2.1 j hj).2) (w := A.1)) o0 rfl rfl (by decide) rfl rfl rfl (Nat.le_of_ble_eq_true rfl) (by decide) d_MessageCoderModel_meanLength_6 (fun r9 F9 z9 hp9 => ?_)
  obtain ⟨rfl, h9b, h9c⟩ := hp9
  rw [h9b, h9c]
  clear h9b h9c F9 z9
  refine x_i2d hC d_MessageCoderModel_meanLength_9 ?_
  refine x_ddiv hC d_MessageCoderModel_meanLength_10 (fl_n64 (fl_ddiv (Nat.lt_of_le_of_lt hs9 (by omega)) (by omega) hs7)) ?_
  exact hret _ _ _ _ _ _ _ d_MessageCoderModel_meanLength_11 (by decide) (by decide) (⟨rfl, rfl, ⟨_, _, _, _, _, _, _, _, _, _, _, _, _, _, _, _, _, o0, ga, h2, h3, h4, h5, h6, h7, h8, h9, hi, hcm, hg, hln, hip⟩, hag⟩)

theorem d_MessageCoderModel_isConsistent_0 : decode prog_14_method_99_code 0 = .ok (.aload_n 0, 1) := by decide +kernel
theorem d_MessageCoderModel_isConsistent_1 : decode prog_14_method_99_code 1 = .ok (.iconst 0, 1) := by decide +kernel
theorem d_MessageCoderModel_isConsistent_2 : decode prog_14_method_99_code 2 = .ok (.putfield 51, 3) := by decide +kernel
theorem d_MessageCoderModel_isConsistent_5 : decode prog_14_method_99_code 5 = .ok (.iconst 1, 1) := by decide +kernel
theorem d_MessageCoderModel_isConsistent_6 : decode prog_14_method_99_code 6 = .ok (.ireturn, 1) := by decide +kernel
set_option maxHeartbeats 4000000 in
set_option maxRecDepth 20000 in
theorem c_MessageCoderModel_isConsistent {P : xP} {F : xF} {z : Nat} {m : Nat} {th0 : Nat} {M : mcS} (hD : xMD F (m) (th0) (M)) (hI : mInv M) : xM P xy_MessageCoderModel_isConsistent [.ref m] F (z) 0 0 (fun r9 F9 z9 => r9 = some (.int (nI 1)) ∧ z9 = z ∧ xMD F9 (m) (0) (M) ∧ (∀ a9 : Nat, (a9 < m ∨ m + 12 ≤ a9) → F9 a9 = F a9)) := by
  refine xM_i .boolean rfl (Nat.le_of_ble_eq_true rfl) (L0 := [some (.ref m)]) rfl rfl fun Θ hC hret => ?_
  have hag : ∀ a9 : Nat, (a9 < m ∨ m + 12 ≤ a9) → F a9 = F a9 := fun a9 _ => rfl
  obtain ⟨A, S, past, ⟨pn, psg⟩, ⟨lnn, lsg⟩, sv, pp, un, ep, fc⟩ := M
  obtain ⟨rs, er, bm, dm, he, cn, g, l2, v3, r4, w5, b6, d7, b8, ln, ip, cs, o0, ga, h2, h3, h4, h5, h6, h7, h8, h9, hi, hcm, hg, hln, hip⟩ := id hD
  obtain ⟨iA, iP, iS, hu8, hup, hs1, hty, hlz, hic, hlc⟩ := id hI
  have o0 : F (m) = some (.inl (10, [.int (nI (th0)), .ref (m + 1), .int (nI (un)), .int (nI (sv)), .int rs, .ref (m + 2), .ref (m + 3), .ref (m + 4), .ref (m + 5), .ref (m + 6), .int (nI (bm)), .ref (m + 7), .int (nI (dm)), .ref (m + 8), .ref (m + 9), .int (nI (lnn)), .ref (m + 10), .int (nI (pn)), .int (nI (he)), .int er, .int ep, .int fc, .ref (m + 11), .int (nI (cn))])) := o0
  have ga : F (m + 1) = some (.inr (0, 4730, fun b9 => .int (nI (g b9)))) := ga
  have h2 : F (m + 2) = some (.inr (0, 8, fun b9 => .int (nI (l2 b9)))) := h2
  have h3 : F (m + 3) = some (.inr (0, 8, fun b9 => .int (nI (v3 b9)))) := h3
  have h4 : F (m + 4) = some (.inr (0, 8, fun b9 => .int (nI (r4 b9)))) := h4
  have h5 : F (m + 5) = some (.inr (0, 8, fun b9 => .int (nI (w5 b9)))) := h5
  have h6 : F (m + 6) = some (.inr (0, 112, fun b9 => .int (nI (b6 b9)))) := h6
  have h7 : F (m + 7) = some (.inr (0, 16, fun b9 => .int (nI (d7 b9)))) := h7
  have h8 : F (m + 8) = some (.inr (0, 17, fun b9 => .int (nI (b8 b9)))) := h8
  have h9 : F (m + 9) = some (.inr (1, 40, fun b9 => .int (nI (ln b9)))) := h9
  have hi : F (m + 10) = some (.inr (1, 60, fun b9 => .int (nI (ip b9)))) := hi
  have hcm : F (m + 11) = some (.inr (0, 183, fun b9 => .int (nI (cs b9)))) := hcm
  have hln : ∀ j, j < lnn → ln j = lsg j := hln
  have hip : ∀ j, j < pn → ip j = psg j := hip
  have iA : aInv A := iA
  have hu8 : un ≤ 8 := hu8
  have hup : un ≤ pp := hup
  have hs1 : sv ≤ 1 := hs1
  have hty : pn ≤ 60 := hty
  have hlz : lnn ≤ 32 := hlz
  have hr : rRow g A := hg.1
  refine x_aload_n hC d_MessageCoderModel_isConsistent_0 rfl rfl ?_
  refine x_iconst hC d_MessageCoderModel_isConsistent_1 (v := nI 0) (by decide) ?_
  refine x_putf hC kf_MessageCoderModel_51 o0 (Nat.le_of_ble_eq_true rfl) rfl rfl d_MessageCoderModel_isConsistent_2 (fs1 := [.int (nI 0), .ref (m + 1), .int (nI (un)), .int (nI (sv)), .int rs, .ref (m + 2), .ref (m + 3), .ref (m + 4), .ref (m + 5), .ref (m + 6), .int (nI (bm)), .ref (m + 7), .int (nI (dm)), .ref (m + 8), .ref (m + 9), .int (nI (lnn)), .ref (m + 10), .int (nI (pn)), .int (nI (he)), .int er, .int ep, .int fc, .ref (m + 11), .int (nI (cn))]) rfl ?_
  generalize e1 : xup F (m) (.inl (10, [.int (nI 0), .ref (m + 1), .int (nI (un)), .int (nI (sv)), .int rs, .ref (m + 2), .ref (m + 3), .ref (m + 4), .ref (m + 5), .ref (m + 6), .int (nI (bm)), .ref (m + 7), .int (nI (dm)), .ref (m + 8), .ref (m + 9), .int (nI (lnn)), .ref (m + 10), .int (nI (pn)), .int (nI (he)), .int er, .int ep, .int fc, .ref (m + 11), .int (nI (cn))])) = F1
  have o0 : F1 (m) = some (.inl (10, [.int (nI 0), .ref (m + 1), .int (nI (un)), .int (nI (sv)), .int rs, .ref (m + 2), .ref (m + 3), .ref (m + 4), .ref (m + 5), .ref (m + 6), .int (nI (bm)), .ref (m + 7), .int (nI (dm)), .ref (m + 8), .ref (m + 9), .int (nI (lnn)), .ref (m + 10), .int (nI (pn)), .int (nI (he)), .int er, .int ep, .int fc, .ref (m + 11), .int (nI (cn))])) := by rw [← e1]; exact xup_eq
  have ga : F1 (m + 1) = some (.inr (0, 4730, fun b9 => .int (nI (g b9)))) := by rw [← e1]; exact (xup_ne (by omega)).trans ga
  have h2 : F1 (m + 2) = some (.inr (0, 8, fun b9 => .int (nI (l2 b9)))) := by rw [← e1]; exact (xup_ne (by omega)).trans h2
  have h3 : F1 (m + 3) = some (.inr (0, 8, fun b9 => .int (nI (v3 b9)))) := by rw [← e1]; exact (xup_ne (by omega)).trans h3
  have h4 : F1 (m + 4) = some (.inr (0, 8, fun b9 => .int (nI (r4 b9)))) := by rw [← e1]; exact (xup_ne (by omega)).trans h4
  have h5 : F1 (m + 5) = some (.inr (0, 8, fun b9 => .int (nI (w5 b9)))) := by rw [← e1]; exact (xup_ne (by omega)).trans h5
  have h6 : F1 (m + 6) = some (.inr (0, 112, fun b9 => .int (nI (b6 b9)))) := by rw [← e1]; exact (xup_ne (by omega)).trans h6
  have h7 : F1 (m + 7) = some (.inr (0, 16, fun b9 => .int (nI (d7 b9)))) := by rw [← e1]; exact (xup_ne (by omega)).trans h7
  have h8 : F1 (m + 8) = some (.inr (0, 17, fun b9 => .int (nI (b8 b9)))) := by rw [← e1]; exact (xup_ne (by omega)).trans h8
  have h9 : F1 (m + 9) = some (.inr (1, 40, fun b9 => .int (nI (ln b9)))) := by rw [← e1]; exact (xup_ne (by omega)).trans h9
  have hi : F1 (m + 10) = some (.inr (1, 60, fun b9 => .int (nI (ip b9)))) := by rw [← e1]; exact (xup_ne (by omega)).trans hi
  have hcm : F1 (m + 11) = some (.inr (0, 183, fun b9 => .int (nI (cs b9)))) := by rw [← e1]; exact (xup_ne (by omega)).trans hcm
  have hag : ∀ a9 : Nat, (a9 < m ∨ m + 12 ≤ a9) → F1 a9 = F a9 := fun a9 q0 => by rw [← e1]; exact (xup_ne (by omega)).trans (hag a9 q0)
  refine x_iconst hC d_MessageCoderModel_isConsistent_5 (v := nI 1) (by decide) ?_
  exact hret _ _ _ _ _ _ _ d_MessageCoderModel_isConsistent_6 (by decide) (by decide) rfl (⟨rfl, rfl, ⟨_, _, _, _, _, _, _, _, _, _, _, _, _, _, _, _, _, o0, ga, h2, h3, h4, h5, h6, h7, h8, h9, hi, hcm, hg, hln, hip⟩, hag⟩)

theorem d_MessageCoderModel_messageCount_0 : decode prog_14_method_68_code 0 = .ok (.aload_n 0, 1) := by decide +kernel
theorem d_MessageCoderModel_messageCount_1 : decode prog_14_method_68_code 1 = .ok (.iconst 1, 1) := by decide +kernel
theorem d_MessageCoderModel_messageCount_2 : decode prog_14_method_68_code 2 = .ok (.invokevirtual 202, 3) := by decide +kernel
theorem d_MessageCoderModel_messageCount_5 : decode prog_14_method_68_code 5 = .ok (.ireturn, 1) := by decide +kernel
set_option maxHeartbeats 4000000 in
set_option maxRecDepth 20000 in
theorem c_MessageCoderModel_messageCount {P : xP} {F : xF} {z : Nat} {m : Nat} {th0 : Nat} {M : mcS} (hD : xMD F (m) (th0) (M)) (hI : mInv M) : xM P xy_MessageCoderModel_messageCount [.ref m] F (z) 0 0 (fun r9 F9 z9 => r9 = some (.int (nI (M.1.2.2.1.1))) ∧ z9 = z ∧ xMD F9 (m) (0) (M) ∧ (∀ a9 : Nat, (a9 < m ∨ m + 12 ≤ a9) → F9 a9 = F a9)) := by
  refine xM_i .int rfl (Nat.le_of_ble_eq_true rfl) (L0 := [some (.ref m)]) rfl rfl fun Θ hC hret => ?_
  have hag : ∀ a9 : Nat, (a9 < m ∨ m + 12 ≤ a9) → F a9 = F a9 := fun a9 _ => rfl
  obtain ⟨A, S, past, ⟨pn, psg⟩, ⟨lnn, lsg⟩, sv, pp, un, ep, fc⟩ := M
  obtain ⟨rs, er, bm, dm, he, cn, g, l2, v3, r4, w5, b6, d7, b8, ln, ip, cs, o0, ga, h2, h3, h4, h5, h6, h7, h8, h9, hi, hcm, hg, hln, hip⟩ := id hD
  obtain ⟨iA, iP, iS, hu8, hup, hs1, hty, hlz, hic, hlc⟩ := id hI
  have o0 : F (m) = some (.inl (10, [.int (nI (th0)), .ref (m + 1), .int (nI (un)), .int (nI (sv)), .int rs, .ref (m + 2), .ref (m + 3), .ref (m + 4), .ref (m + 5), .ref (m + 6), .int (nI (bm)), .ref (m + 7), .int (nI (dm)), .ref (m + 8), .ref (m + 9), .int (nI (lnn)), .ref (m + 10), .int (nI (pn)), .int (nI (he)), .int er, .int ep, .int fc, .ref (m + 11), .int (nI (cn))])) := o0
  have ga : F (m + 1) = some (.inr (0, 4730, fun b9 => .int (nI (g b9)))) := ga
  have h2 : F (m + 2) = some (.inr (0, 8, fun b9 => .int (nI (l2 b9)))) := h2
  have h3 : F (m + 3) = some (.inr (0, 8, fun b9 => .int (nI (v3 b9)))) := h3
  have h4 : F (m + 4) = some (.inr (0, 8, fun b9 => .int (nI (r4 b9)))) := h4
  have h5 : F (m + 5) = some (.inr (0, 8, fun b9 => .int (nI (w5 b9)))) := h5
  have h6 : F (m + 6) = some (.inr (0, 112, fun b9 => .int (nI (b6 b9)))) := h6
  have h7 : F (m + 7) = some (.inr (0, 16, fun b9 => .int (nI (d7 b9)))) := h7
  have h8 : F (m + 8) = some (.inr (0, 17, fun b9 => .int (nI (b8 b9)))) := h8
  have h9 : F (m + 9) = some (.inr (1, 40, fun b9 => .int (nI (ln b9)))) := h9
  have hi : F (m + 10) = some (.inr (1, 60, fun b9 => .int (nI (ip b9)))) := hi
  have hcm : F (m + 11) = some (.inr (0, 183, fun b9 => .int (nI (cs b9)))) := hcm
  have hln : ∀ j, j < lnn → ln j = lsg j := hln
  have hip : ∀ j, j < pn → ip j = psg j := hip
  have iA : aInv A := iA
  have hu8 : un ≤ 8 := hu8
  have hup : un ≤ pp := hup
  have hs1 : sv ≤ 1 := hs1
  have hty : pn ≤ 60 := hty
  have hlz : lnn ≤ 32 := hlz
  have hr : rRow g A := hg.1
  have hA : aInv A := iA
  obtain ⟨⟨q0, q1, q2, q3, q4, q5, q6, q7, q9⟩, qw, qd, qm, qf, qx, qb⟩ := id hr
  obtain ⟨⟨u1, u2, u3, u4, u5⟩, uw, ud, um, uo, ut, ux, ub, un9⟩ := id hA
  refine x_aload_n hC d_MessageCoderModel_messageCount_0 rfl rfl ?_
  refine x_iconst hC d_MessageCoderModel_messageCount_1 (v := nI 1) (by decide) ?_
  refine x_callV hC kv_MessageCoderModel_202 (c_MessageCoderModel_told (o0 := o0) (ga := ga) (hi := by omega)) o0 rfl rfl (by decide) rfl rfl rfl (Nat.le_of_ble_eq_true rfl) (by decide) d_MessageCoderModel_messageCount_2 (fun r9 F9 z9 hp9 => ?_)
  obtain ⟨rfl, h9c, j0, hag9⟩ := hp9
  rw [h9c]
  clear h9c z9
  generalize F9 = F1 at *
  have ga : F1 (m + 1) = some (.inr (0, 4730, fun b9 => .int (nI (g b9)))) := (hag9 _ (by omega)).trans ga
  have h2 : F1 (m + 2) = some (.inr (0, 8, fun b9 => .int (nI (l2 b9)))) := (hag9 _ (by omega)).trans h2
  have h3 : F1 (m + 3) = some (.inr (0, 8, fun b9 => .int (nI (v3 b9)))) := (hag9 _ (by omega)).trans h3
  have h4 : F1 (m + 4) = some (.inr (0, 8, fun b9 => .int (nI (r4 b9)))) := (hag9 _ (by omega)).trans h4
  have h5 : F1 (m + 5) = some (.inr (0, 8, fun b9 => .int (nI (w5 b9)))) := (hag9 _ (by omega)).trans h5
  have h6 : F1 (m + 6) = some (.inr (0, 112, fun b9 => .int (nI (b6 b9)))) := (hag9 _ (by omega)).trans h6
  have h7 : F1 (m + 7) = some (.inr (0, 16, fun b9 => .int (nI (d7 b9)))) := (hag9 _ (by omega)).trans h7
  have h8 : F1 (m + 8) = some (.inr (0, 17, fun b9 => .int (nI (b8 b9)))) := (hag9 _ (by omega)).trans h8
  have h9 : F1 (m + 9) = some (.inr (1, 40, fun b9 => .int (nI (ln b9)))) := (hag9 _ (by omega)).trans h9
  have hi : F1 (m + 10) = some (.inr (1, 60, fun b9 => .int (nI (ip b9)))) := (hag9 _ (by omega)).trans hi
  have hcm : F1 (m + 11) = some (.inr (0, 183, fun b9 => .int (nI (cs b9)))) := (hag9 _ (by omega)).trans hcm
  have o0 : F1 (m) = some (.inl (10, [.int (nI 0), .ref (m + 1), .int (nI (un)), .int (nI (sv)), .int rs, .ref (m + 2), .ref (m + 3), .ref (m + 4), .ref (m + 5), .ref (m + 6), .int (nI (bm)), .ref (m + 7), .int (nI (dm)), .ref (m + 8), .ref (m + 9), .int (nI (lnn)), .ref (m + 10), .int (nI (pn)), .int (nI (he)), .int er, .int ep, .int fc, .ref (m + 11), .int (nI (cn))])) := j0
  have hag : ∀ a9 : Nat, (a9 < m ∨ m + 12 ≤ a9) → F1 a9 = F a9 := fun a9 q0 => (hag9 a9 (by omega)).trans (hag a9 q0)
  have hg_2 := hag9
  clear hag9
  exact hret _ _ _ _ _ _ _ d_MessageCoderModel_messageCount_5 (by decide) (by decide) rfl (⟨congrArg (fun q => some (Value.int (nI q))) (q1), rfl, ⟨_, _, _, _, _, _, _, _, _, _, _, _, _, _, _, _, _, o0, ga, h2, h3, h4, h5, h6, h7, h8, h9, hi, hcm, hg, hln, hip⟩, hag⟩)

theorem d_MessageCoderModel_frameLength_0 : decode prog_14_method_84_code 0 = .ok (.aload_n 0, 1) := by decide +kernel
theorem d_MessageCoderModel_frameLength_1 : decode prog_14_method_84_code 1 = .ok (.bipush 7, 2) := by decide +kernel
theorem d_MessageCoderModel_frameLength_3 : decode prog_14_method_84_code 3 = .ok (.invokevirtual 202, 3) := by decide +kernel
theorem d_MessageCoderModel_frameLength_6 : decode prog_14_method_84_code 6 = .ok (.ireturn, 1) := by decide +kernel
set_option maxHeartbeats 4000000 in
set_option maxRecDepth 20000 in
theorem c_MessageCoderModel_frameLength {P : xP} {F : xF} {z : Nat} {m : Nat} {th0 : Nat} {M : mcS} (hD : xMD F (m) (th0) (M)) (hI : mInv M) : xM P xy_MessageCoderModel_frameLength [.ref m] F (z) 0 0 (fun r9 F9 z9 => r9 = some (.int (nI (M.1.2.2.2.1.1 * 7))) ∧ z9 = z ∧ xMD F9 (m) (0) (M) ∧ (∀ a9 : Nat, (a9 < m ∨ m + 12 ≤ a9) → F9 a9 = F a9)) := by
  refine xM_i .int rfl (Nat.le_of_ble_eq_true rfl) (L0 := [some (.ref m)]) rfl rfl fun Θ hC hret => ?_
  have hag : ∀ a9 : Nat, (a9 < m ∨ m + 12 ≤ a9) → F a9 = F a9 := fun a9 _ => rfl
  obtain ⟨A, S, past, ⟨pn, psg⟩, ⟨lnn, lsg⟩, sv, pp, un, ep, fc⟩ := M
  obtain ⟨rs, er, bm, dm, he, cn, g, l2, v3, r4, w5, b6, d7, b8, ln, ip, cs, o0, ga, h2, h3, h4, h5, h6, h7, h8, h9, hi, hcm, hg, hln, hip⟩ := id hD
  obtain ⟨iA, iP, iS, hu8, hup, hs1, hty, hlz, hic, hlc⟩ := id hI
  have o0 : F (m) = some (.inl (10, [.int (nI (th0)), .ref (m + 1), .int (nI (un)), .int (nI (sv)), .int rs, .ref (m + 2), .ref (m + 3), .ref (m + 4), .ref (m + 5), .ref (m + 6), .int (nI (bm)), .ref (m + 7), .int (nI (dm)), .ref (m + 8), .ref (m + 9), .int (nI (lnn)), .ref (m + 10), .int (nI (pn)), .int (nI (he)), .int er, .int ep, .int fc, .ref (m + 11), .int (nI (cn))])) := o0
  have ga : F (m + 1) = some (.inr (0, 4730, fun b9 => .int (nI (g b9)))) := ga
  have h2 : F (m + 2) = some (.inr (0, 8, fun b9 => .int (nI (l2 b9)))) := h2
  have h3 : F (m + 3) = some (.inr (0, 8, fun b9 => .int (nI (v3 b9)))) := h3
  have h4 : F (m + 4) = some (.inr (0, 8, fun b9 => .int (nI (r4 b9)))) := h4
  have h5 : F (m + 5) = some (.inr (0, 8, fun b9 => .int (nI (w5 b9)))) := h5
  have h6 : F (m + 6) = some (.inr (0, 112, fun b9 => .int (nI (b6 b9)))) := h6
  have h7 : F (m + 7) = some (.inr (0, 16, fun b9 => .int (nI (d7 b9)))) := h7
  have h8 : F (m + 8) = some (.inr (0, 17, fun b9 => .int (nI (b8 b9)))) := h8
  have h9 : F (m + 9) = some (.inr (1, 40, fun b9 => .int (nI (ln b9)))) := h9
  have hi : F (m + 10) = some (.inr (1, 60, fun b9 => .int (nI (ip b9)))) := hi
  have hcm : F (m + 11) = some (.inr (0, 183, fun b9 => .int (nI (cs b9)))) := hcm
  have hln : ∀ j, j < lnn → ln j = lsg j := hln
  have hip : ∀ j, j < pn → ip j = psg j := hip
  have iA : aInv A := iA
  have hu8 : un ≤ 8 := hu8
  have hup : un ≤ pp := hup
  have hs1 : sv ≤ 1 := hs1
  have hty : pn ≤ 60 := hty
  have hlz : lnn ≤ 32 := hlz
  have hr : rRow g A := hg.1
  have hA : aInv A := iA
  obtain ⟨⟨q0, q1, q2, q3, q4, q5, q6, q7, q9⟩, qw, qd, qm, qf, qx, qb⟩ := id hr
  obtain ⟨⟨u1, u2, u3, u4, u5⟩, uw, ud, um, uo, ut, ux, ub, un9⟩ := id hA
  refine x_aload_n hC d_MessageCoderModel_frameLength_0 rfl rfl ?_
  refine x_bipush hC d_MessageCoderModel_frameLength_1 (v := nI 7) (by decide) ?_
  refine x_callV hC kv_MessageCoderModel_202 (c_MessageCoderModel_told (o0 := o0) (ga := ga) (hi := by omega)) o0 rfl rfl (by decide) rfl rfl rfl (Nat.le_of_ble_eq_true rfl) (by decide) d_MessageCoderModel_frameLength_3 (fun r9 F9 z9 hp9 => ?_)
  obtain ⟨rfl, h9c, j0, hag9⟩ := hp9
  rw [h9c]
  clear h9c z9
  generalize F9 = F1 at *
  have ga : F1 (m + 1) = some (.inr (0, 4730, fun b9 => .int (nI (g b9)))) := (hag9 _ (by omega)).trans ga
  have h2 : F1 (m + 2) = some (.inr (0, 8, fun b9 => .int (nI (l2 b9)))) := (hag9 _ (by omega)).trans h2
  have h3 : F1 (m + 3) = some (.inr (0, 8, fun b9 => .int (nI (v3 b9)))) := (hag9 _ (by omega)).trans h3
  have h4 : F1 (m + 4) = some (.inr (0, 8, fun b9 => .int (nI (r4 b9)))) := (hag9 _ (by omega)).trans h4
  have h5 : F1 (m + 5) = some (.inr (0, 8, fun b9 => .int (nI (w5 b9)))) := (hag9 _ (by omega)).trans h5
  have h6 : F1 (m + 6) = some (.inr (0, 112, fun b9 => .int (nI (b6 b9)))) := (hag9 _ (by omega)).trans h6
  have h7 : F1 (m + 7) = some (.inr (0, 16, fun b9 => .int (nI (d7 b9)))) := (hag9 _ (by omega)).trans h7
  have h8 : F1 (m + 8) = some (.inr (0, 17, fun b9 => .int (nI (b8 b9)))) := (hag9 _ (by omega)).trans h8
  have h9 : F1 (m + 9) = some (.inr (1, 40, fun b9 => .int (nI (ln b9)))) := (hag9 _ (by omega)).trans h9
  have hi : F1 (m + 10) = some (.inr (1, 60, fun b9 => .int (nI (ip b9)))) := (hag9 _ (by omega)).trans hi
  have hcm : F1 (m + 11) = some (.inr (0, 183, fun b9 => .int (nI (cs b9)))) := (hag9 _ (by omega)).trans hcm
  have o0 : F1 (m) = some (.inl (10, [.int (nI 0), .ref (m + 1), .int (nI (un)), .int (nI (sv)), .int rs, .ref (m + 2), .ref (m + 3), .ref (m + 4), .ref (m + 5), .ref (m + 6), .int (nI (bm)), .ref (m + 7), .int (nI (dm)), .ref (m + 8), .ref (m + 9), .int (nI (lnn)), .ref (m + 10), .int (nI (pn)), .int (nI (he)), .int er, .int ep, .int fc, .ref (m + 11), .int (nI (cn))])) := j0
  have hag : ∀ a9 : Nat, (a9 < m ∨ m + 12 ≤ a9) → F1 a9 = F a9 := fun a9 q0 => (hag9 a9 (by omega)).trans (hag a9 q0)
  have hg_3 := hag9
  clear hag9
  exact hret _ _ _ _ _ _ _ d_MessageCoderModel_frameLength_6 (by decide) (by decide) rfl (⟨congrArg (fun q => some (Value.int (nI q))) (q7), rfl, ⟨_, _, _, _, _, _, _, _, _, _, _, _, _, _, _, _, _, o0, ga, h2, h3, h4, h5, h6, h7, h8, h9, hi, hcm, hg, hln, hip⟩, hag⟩)

theorem d_MessageCoderModel_receivedLength_0 : decode prog_14_method_92_code 0 = .ok (.aload_n 0, 1) := by decide +kernel
theorem d_MessageCoderModel_receivedLength_1 : decode prog_14_method_92_code 1 = .ok (.bipush 9, 2) := by decide +kernel
theorem d_MessageCoderModel_receivedLength_3 : decode prog_14_method_92_code 3 = .ok (.invokevirtual 202, 3) := by decide +kernel
theorem d_MessageCoderModel_receivedLength_6 : decode prog_14_method_92_code 6 = .ok (.ireturn, 1) := by decide +kernel
set_option maxHeartbeats 4000000 in
set_option maxRecDepth 20000 in
theorem c_MessageCoderModel_receivedLength {P : xP} {F : xF} {z : Nat} {m : Nat} {th0 : Nat} {M : mcS} (hD : xMD F (m) (th0) (M)) (hI : mInv M) : xM P xy_MessageCoderModel_receivedLength [.ref m] F (z) 0 0 (fun r9 F9 z9 => r9 = some (.int (nI (M.1.2.2.2.2.1.1))) ∧ z9 = z ∧ xMD F9 (m) (0) (M) ∧ (∀ a9 : Nat, (a9 < m ∨ m + 12 ≤ a9) → F9 a9 = F a9)) := by
  refine xM_i .int rfl (Nat.le_of_ble_eq_true rfl) (L0 := [some (.ref m)]) rfl rfl fun Θ hC hret => ?_
  have hag : ∀ a9 : Nat, (a9 < m ∨ m + 12 ≤ a9) → F a9 = F a9 := fun a9 _ => rfl
  obtain ⟨A, S, past, ⟨pn, psg⟩, ⟨lnn, lsg⟩, sv, pp, un, ep, fc⟩ := M
  obtain ⟨rs, er, bm, dm, he, cn, g, l2, v3, r4, w5, b6, d7, b8, ln, ip, cs, o0, ga, h2, h3, h4, h5, h6, h7, h8, h9, hi, hcm, hg, hln, hip⟩ := id hD
  obtain ⟨iA, iP, iS, hu8, hup, hs1, hty, hlz, hic, hlc⟩ := id hI
  have o0 : F (m) = some (.inl (10, [.int (nI (th0)), .ref (m + 1), .int (nI (un)), .int (nI (sv)), .int rs, .ref (m + 2), .ref (m + 3), .ref (m + 4), .ref (m + 5), .ref (m + 6), .int (nI (bm)), .ref (m + 7), .int (nI (dm)), .ref (m + 8), .ref (m + 9), .int (nI (lnn)), .ref (m + 10), .int (nI (pn)), .int (nI (he)), .int er, .int ep, .int fc, .ref (m + 11), .int (nI (cn))])) := o0
  have ga : F (m + 1) = some (.inr (0, 4730, fun b9 => .int (nI (g b9)))) := ga
  have h2 : F (m + 2) = some (.inr (0, 8, fun b9 => .int (nI (l2 b9)))) := h2
  have h3 : F (m + 3) = some (.inr (0, 8, fun b9 => .int (nI (v3 b9)))) := h3
  have h4 : F (m + 4) = some (.inr (0, 8, fun b9 => .int (nI (r4 b9)))) := h4
  have h5 : F (m + 5) = some (.inr (0, 8, fun b9 => .int (nI (w5 b9)))) := h5
  have h6 : F (m + 6) = some (.inr (0, 112, fun b9 => .int (nI (b6 b9)))) := h6
  have h7 : F (m + 7) = some (.inr (0, 16, fun b9 => .int (nI (d7 b9)))) := h7
  have h8 : F (m + 8) = some (.inr (0, 17, fun b9 => .int (nI (b8 b9)))) := h8
  have h9 : F (m + 9) = some (.inr (1, 40, fun b9 => .int (nI (ln b9)))) := h9
  have hi : F (m + 10) = some (.inr (1, 60, fun b9 => .int (nI (ip b9)))) := hi
  have hcm : F (m + 11) = some (.inr (0, 183, fun b9 => .int (nI (cs b9)))) := hcm
  have hln : ∀ j, j < lnn → ln j = lsg j := hln
  have hip : ∀ j, j < pn → ip j = psg j := hip
  have iA : aInv A := iA
  have hu8 : un ≤ 8 := hu8
  have hup : un ≤ pp := hup
  have hs1 : sv ≤ 1 := hs1
  have hty : pn ≤ 60 := hty
  have hlz : lnn ≤ 32 := hlz
  have hr : rRow g A := hg.1
  have hA : aInv A := iA
  obtain ⟨⟨q0, q1, q2, q3, q4, q5, q6, q7, q9⟩, qw, qd, qm, qf, qx, qb⟩ := id hr
  obtain ⟨⟨u1, u2, u3, u4, u5⟩, uw, ud, um, uo, ut, ux, ub, un9⟩ := id hA
  refine x_aload_n hC d_MessageCoderModel_receivedLength_0 rfl rfl ?_
  refine x_bipush hC d_MessageCoderModel_receivedLength_1 (v := nI 9) (by decide) ?_
  refine x_callV hC kv_MessageCoderModel_202 (c_MessageCoderModel_told (o0 := o0) (ga := ga) (hi := by omega)) o0 rfl rfl (by decide) rfl rfl rfl (Nat.le_of_ble_eq_true rfl) (by decide) d_MessageCoderModel_receivedLength_3 (fun r9 F9 z9 hp9 => ?_)
  obtain ⟨rfl, h9c, j0, hag9⟩ := hp9
  rw [h9c]
  clear h9c z9
  generalize F9 = F1 at *
  have ga : F1 (m + 1) = some (.inr (0, 4730, fun b9 => .int (nI (g b9)))) := (hag9 _ (by omega)).trans ga
  have h2 : F1 (m + 2) = some (.inr (0, 8, fun b9 => .int (nI (l2 b9)))) := (hag9 _ (by omega)).trans h2
  have h3 : F1 (m + 3) = some (.inr (0, 8, fun b9 => .int (nI (v3 b9)))) := (hag9 _ (by omega)).trans h3
  have h4 : F1 (m + 4) = some (.inr (0, 8, fun b9 => .int (nI (r4 b9)))) := (hag9 _ (by omega)).trans h4
  have h5 : F1 (m + 5) = some (.inr (0, 8, fun b9 => .int (nI (w5 b9)))) := (hag9 _ (by omega)).trans h5
  have h6 : F1 (m + 6) = some (.inr (0, 112, fun b9 => .int (nI (b6 b9)))) := (hag9 _ (by omega)).trans h6
  have h7 : F1 (m + 7) = some (.inr (0, 16, fun b9 => .int (nI (d7 b9)))) := (hag9 _ (by omega)).trans h7
  have h8 : F1 (m + 8) = some (.inr (0, 17, fun b9 => .int (nI (b8 b9)))) := (hag9 _ (by omega)).trans h8
  have h9 : F1 (m + 9) = some (.inr (1, 40, fun b9 => .int (nI (ln b9)))) := (hag9 _ (by omega)).trans h9
  have hi : F1 (m + 10) = some (.inr (1, 60, fun b9 => .int (nI (ip b9)))) := (hag9 _ (by omega)).trans hi
  have hcm : F1 (m + 11) = some (.inr (0, 183, fun b9 => .int (nI (cs b9)))) := (hag9 _ (by omega)).trans hcm
  have o0 : F1 (m) = some (.inl (10, [.int (nI 0), .ref (m + 1), .int (nI (un)), .int (nI (sv)), .int rs, .ref (m + 2), .ref (m + 3), .ref (m + 4), .ref (m + 5), .ref (m + 6), .int (nI (bm)), .ref (m + 7), .int (nI (dm)), .ref (m + 8), .ref (m + 9), .int (nI (lnn)), .ref (m + 10), .int (nI (pn)), .int (nI (he)), .int er, .int ep, .int fc, .ref (m + 11), .int (nI (cn))])) := j0
  have hag : ∀ a9 : Nat, (a9 < m ∨ m + 12 ≤ a9) → F1 a9 = F a9 := fun a9 q0 => (hag9 a9 (by omega)).trans (hag a9 q0)
  have hg_3 := hag9
  clear hag9
  exact hret _ _ _ _ _ _ _ d_MessageCoderModel_receivedLength_6 (by decide) (by decide) rfl (⟨congrArg (fun q => some (Value.int (nI q))) (q9), rfl, ⟨_, _, _, _, _, _, _, _, _, _, _, _, _, _, _, _, _, o0, ga, h2, h3, h4, h5, h6, h7, h8, h9, hi, hcm, hg, hln, hip⟩, hag⟩)

theorem d_MessageCoderModel_sentTotal_0 : decode prog_14_method_94_code 0 = .ok (.aload_n 0, 1) := by decide +kernel
theorem d_MessageCoderModel_sentTotal_1 : decode prog_14_method_94_code 1 = .ok (.iconst 3, 1) := by decide +kernel
theorem d_MessageCoderModel_sentTotal_2 : decode prog_14_method_94_code 2 = .ok (.invokevirtual 202, 3) := by decide +kernel
theorem d_MessageCoderModel_sentTotal_5 : decode prog_14_method_94_code 5 = .ok (.ireturn, 1) := by decide +kernel
set_option maxHeartbeats 4000000 in
set_option maxRecDepth 20000 in
theorem c_MessageCoderModel_sentTotal {P : xP} {F : xF} {z : Nat} {m : Nat} {th0 : Nat} {M : mcS} (hD : xMD F (m) (th0) (M)) (hI : mInv M) : xM P xy_MessageCoderModel_sentTotal [.ref m] F (z) 0 0 (fun r9 F9 z9 => r9 = some (.int (nI (M.1.2.2.2.2.2.1))) ∧ z9 = z ∧ xMD F9 (m) (0) (M) ∧ (∀ a9 : Nat, (a9 < m ∨ m + 12 ≤ a9) → F9 a9 = F a9)) := by
  refine xM_i .int rfl (Nat.le_of_ble_eq_true rfl) (L0 := [some (.ref m)]) rfl rfl fun Θ hC hret => ?_
  have hag : ∀ a9 : Nat, (a9 < m ∨ m + 12 ≤ a9) → F a9 = F a9 := fun a9 _ => rfl
  obtain ⟨A, S, past, ⟨pn, psg⟩, ⟨lnn, lsg⟩, sv, pp, un, ep, fc⟩ := M
  obtain ⟨rs, er, bm, dm, he, cn, g, l2, v3, r4, w5, b6, d7, b8, ln, ip, cs, o0, ga, h2, h3, h4, h5, h6, h7, h8, h9, hi, hcm, hg, hln, hip⟩ := id hD
  obtain ⟨iA, iP, iS, hu8, hup, hs1, hty, hlz, hic, hlc⟩ := id hI
  have o0 : F (m) = some (.inl (10, [.int (nI (th0)), .ref (m + 1), .int (nI (un)), .int (nI (sv)), .int rs, .ref (m + 2), .ref (m + 3), .ref (m + 4), .ref (m + 5), .ref (m + 6), .int (nI (bm)), .ref (m + 7), .int (nI (dm)), .ref (m + 8), .ref (m + 9), .int (nI (lnn)), .ref (m + 10), .int (nI (pn)), .int (nI (he)), .int er, .int ep, .int fc, .ref (m + 11), .int (nI (cn))])) := o0
  have ga : F (m + 1) = some (.inr (0, 4730, fun b9 => .int (nI (g b9)))) := ga
  have h2 : F (m + 2) = some (.inr (0, 8, fun b9 => .int (nI (l2 b9)))) := h2
  have h3 : F (m + 3) = some (.inr (0, 8, fun b9 => .int (nI (v3 b9)))) := h3
  have h4 : F (m + 4) = some (.inr (0, 8, fun b9 => .int (nI (r4 b9)))) := h4
  have h5 : F (m + 5) = some (.inr (0, 8, fun b9 => .int (nI (w5 b9)))) := h5
  have h6 : F (m + 6) = some (.inr (0, 112, fun b9 => .int (nI (b6 b9)))) := h6
  have h7 : F (m + 7) = some (.inr (0, 16, fun b9 => .int (nI (d7 b9)))) := h7
  have h8 : F (m + 8) = some (.inr (0, 17, fun b9 => .int (nI (b8 b9)))) := h8
  have h9 : F (m + 9) = some (.inr (1, 40, fun b9 => .int (nI (ln b9)))) := h9
  have hi : F (m + 10) = some (.inr (1, 60, fun b9 => .int (nI (ip b9)))) := hi
  have hcm : F (m + 11) = some (.inr (0, 183, fun b9 => .int (nI (cs b9)))) := hcm
  have hln : ∀ j, j < lnn → ln j = lsg j := hln
  have hip : ∀ j, j < pn → ip j = psg j := hip
  have iA : aInv A := iA
  have hu8 : un ≤ 8 := hu8
  have hup : un ≤ pp := hup
  have hs1 : sv ≤ 1 := hs1
  have hty : pn ≤ 60 := hty
  have hlz : lnn ≤ 32 := hlz
  have hr : rRow g A := hg.1
  have hA : aInv A := iA
  obtain ⟨⟨q0, q1, q2, q3, q4, q5, q6, q7, q9⟩, qw, qd, qm, qf, qx, qb⟩ := id hr
  obtain ⟨⟨u1, u2, u3, u4, u5⟩, uw, ud, um, uo, ut, ux, ub, un9⟩ := id hA
  refine x_aload_n hC d_MessageCoderModel_sentTotal_0 rfl rfl ?_
  refine x_iconst hC d_MessageCoderModel_sentTotal_1 (v := nI 3) (by decide) ?_
  refine x_callV hC kv_MessageCoderModel_202 (c_MessageCoderModel_told (o0 := o0) (ga := ga) (hi := by omega)) o0 rfl rfl (by decide) rfl rfl rfl (Nat.le_of_ble_eq_true rfl) (by decide) d_MessageCoderModel_sentTotal_2 (fun r9 F9 z9 hp9 => ?_)
  obtain ⟨rfl, h9c, j0, hag9⟩ := hp9
  rw [h9c]
  clear h9c z9
  generalize F9 = F1 at *
  have ga : F1 (m + 1) = some (.inr (0, 4730, fun b9 => .int (nI (g b9)))) := (hag9 _ (by omega)).trans ga
  have h2 : F1 (m + 2) = some (.inr (0, 8, fun b9 => .int (nI (l2 b9)))) := (hag9 _ (by omega)).trans h2
  have h3 : F1 (m + 3) = some (.inr (0, 8, fun b9 => .int (nI (v3 b9)))) := (hag9 _ (by omega)).trans h3
  have h4 : F1 (m + 4) = some (.inr (0, 8, fun b9 => .int (nI (r4 b9)))) := (hag9 _ (by omega)).trans h4
  have h5 : F1 (m + 5) = some (.inr (0, 8, fun b9 => .int (nI (w5 b9)))) := (hag9 _ (by omega)).trans h5
  have h6 : F1 (m + 6) = some (.inr (0, 112, fun b9 => .int (nI (b6 b9)))) := (hag9 _ (by omega)).trans h6
  have h7 : F1 (m + 7) = some (.inr (0, 16, fun b9 => .int (nI (d7 b9)))) := (hag9 _ (by omega)).trans h7
  have h8 : F1 (m + 8) = some (.inr (0, 17, fun b9 => .int (nI (b8 b9)))) := (hag9 _ (by omega)).trans h8
  have h9 : F1 (m + 9) = some (.inr (1, 40, fun b9 => .int (nI (ln b9)))) := (hag9 _ (by omega)).trans h9
  have hi : F1 (m + 10) = some (.inr (1, 60, fun b9 => .int (nI (ip b9)))) := (hag9 _ (by omega)).trans hi
  have hcm : F1 (m + 11) = some (.inr (0, 183, fun b9 => .int (nI (cs b9)))) := (hag9 _ (by omega)).trans hcm
  have o0 : F1 (m) = some (.inl (10, [.int (nI 0), .ref (m + 1), .int (nI (un)), .int (nI (sv)), .int rs, .ref (m + 2), .ref (m + 3), .ref (m + 4), .ref (m + 5), .ref (m + 6), .int (nI (bm)), .ref (m + 7), .int (nI (dm)), .ref (m + 8), .ref (m + 9), .int (nI (lnn)), .ref (m + 10), .int (nI (pn)), .int (nI (he)), .int er, .int ep, .int fc, .ref (m + 11), .int (nI (cn))])) := j0
  have hag : ∀ a9 : Nat, (a9 < m ∨ m + 12 ≤ a9) → F1 a9 = F a9 := fun a9 q0 => (hag9 a9 (by omega)).trans (hag a9 q0)
  have hg_2 := hag9
  clear hag9
  exact hret _ _ _ _ _ _ _ d_MessageCoderModel_sentTotal_5 (by decide) (by decide) rfl (⟨congrArg (fun q => some (Value.int (nI q))) (q3), rfl, ⟨_, _, _, _, _, _, _, _, _, _, _, _, _, _, _, _, _, o0, ga, h2, h3, h4, h5, h6, h7, h8, h9, hi, hcm, hg, hln, hip⟩, hag⟩)

theorem d_MessageCoderModel_receivedTotal_0 : decode prog_14_method_95_code 0 = .ok (.aload_n 0, 1) := by decide +kernel
theorem d_MessageCoderModel_receivedTotal_1 : decode prog_14_method_95_code 1 = .ok (.iconst 4, 1) := by decide +kernel
theorem d_MessageCoderModel_receivedTotal_2 : decode prog_14_method_95_code 2 = .ok (.invokevirtual 202, 3) := by decide +kernel
theorem d_MessageCoderModel_receivedTotal_5 : decode prog_14_method_95_code 5 = .ok (.ireturn, 1) := by decide +kernel
set_option maxHeartbeats 4000000 in
set_option maxRecDepth 20000 in
theorem c_MessageCoderModel_receivedTotal {P : xP} {F : xF} {z : Nat} {m : Nat} {th0 : Nat} {M : mcS} (hD : xMD F (m) (th0) (M)) (hI : mInv M) : xM P xy_MessageCoderModel_receivedTotal [.ref m] F (z) 0 0 (fun r9 F9 z9 => r9 = some (.int (nI (M.1.2.2.2.2.2.2.1))) ∧ z9 = z ∧ xMD F9 (m) (0) (M) ∧ (∀ a9 : Nat, (a9 < m ∨ m + 12 ≤ a9) → F9 a9 = F a9)) := by
  refine xM_i .int rfl (Nat.le_of_ble_eq_true rfl) (L0 := [some (.ref m)]) rfl rfl fun Θ hC hret => ?_
  have hag : ∀ a9 : Nat, (a9 < m ∨ m + 12 ≤ a9) → F a9 = F a9 := fun a9 _ => rfl
  obtain ⟨A, S, past, ⟨pn, psg⟩, ⟨lnn, lsg⟩, sv, pp, un, ep, fc⟩ := M
  obtain ⟨rs, er, bm, dm, he, cn, g, l2, v3, r4, w5, b6, d7, b8, ln, ip, cs, o0, ga, h2, h3, h4, h5, h6, h7, h8, h9, hi, hcm, hg, hln, hip⟩ := id hD
  obtain ⟨iA, iP, iS, hu8, hup, hs1, hty, hlz, hic, hlc⟩ := id hI
  have o0 : F (m) = some (.inl (10, [.int (nI (th0)), .ref (m + 1), .int (nI (un)), .int (nI (sv)), .int rs, .ref (m + 2), .ref (m + 3), .ref (m + 4), .ref (m + 5), .ref (m + 6), .int (nI (bm)), .ref (m + 7), .int (nI (dm)), .ref (m + 8), .ref (m + 9), .int (nI (lnn)), .ref (m + 10), .int (nI (pn)), .int (nI (he)), .int er, .int ep, .int fc, .ref (m + 11), .int (nI (cn))])) := o0
  have ga : F (m + 1) = some (.inr (0, 4730, fun b9 => .int (nI (g b9)))) := ga
  have h2 : F (m + 2) = some (.inr (0, 8, fun b9 => .int (nI (l2 b9)))) := h2
  have h3 : F (m + 3) = some (.inr (0, 8, fun b9 => .int (nI (v3 b9)))) := h3
  have h4 : F (m + 4) = some (.inr (0, 8, fun b9 => .int (nI (r4 b9)))) := h4
  have h5 : F (m + 5) = some (.inr (0, 8, fun b9 => .int (nI (w5 b9)))) := h5
  have h6 : F (m + 6) = some (.inr (0, 112, fun b9 => .int (nI (b6 b9)))) := h6
  have h7 : F (m + 7) = some (.inr (0, 16, fun b9 => .int (nI (d7 b9)))) := h7
  have h8 : F (m + 8) = some (.inr (0, 17, fun b9 => .int (nI (b8 b9)))) := h8
  have h9 : F (m + 9) = some (.inr (1, 40, fun b9 => .int (nI (ln b9)))) := h9
  have hi : F (m + 10) = some (.inr (1, 60, fun b9 => .int (nI (ip b9)))) := hi
  have hcm : F (m + 11) = some (.inr (0, 183, fun b9 => .int (nI (cs b9)))) := hcm
  have hln : ∀ j, j < lnn → ln j = lsg j := hln
  have hip : ∀ j, j < pn → ip j = psg j := hip
  have iA : aInv A := iA
  have hu8 : un ≤ 8 := hu8
  have hup : un ≤ pp := hup
  have hs1 : sv ≤ 1 := hs1
  have hty : pn ≤ 60 := hty
  have hlz : lnn ≤ 32 := hlz
  have hr : rRow g A := hg.1
  have hA : aInv A := iA
  obtain ⟨⟨q0, q1, q2, q3, q4, q5, q6, q7, q9⟩, qw, qd, qm, qf, qx, qb⟩ := id hr
  obtain ⟨⟨u1, u2, u3, u4, u5⟩, uw, ud, um, uo, ut, ux, ub, un9⟩ := id hA
  refine x_aload_n hC d_MessageCoderModel_receivedTotal_0 rfl rfl ?_
  refine x_iconst hC d_MessageCoderModel_receivedTotal_1 (v := nI 4) (by decide) ?_
  refine x_callV hC kv_MessageCoderModel_202 (c_MessageCoderModel_told (o0 := o0) (ga := ga) (hi := by omega)) o0 rfl rfl (by decide) rfl rfl rfl (Nat.le_of_ble_eq_true rfl) (by decide) d_MessageCoderModel_receivedTotal_2 (fun r9 F9 z9 hp9 => ?_)
  obtain ⟨rfl, h9c, j0, hag9⟩ := hp9
  rw [h9c]
  clear h9c z9
  generalize F9 = F1 at *
  have ga : F1 (m + 1) = some (.inr (0, 4730, fun b9 => .int (nI (g b9)))) := (hag9 _ (by omega)).trans ga
  have h2 : F1 (m + 2) = some (.inr (0, 8, fun b9 => .int (nI (l2 b9)))) := (hag9 _ (by omega)).trans h2
  have h3 : F1 (m + 3) = some (.inr (0, 8, fun b9 => .int (nI (v3 b9)))) := (hag9 _ (by omega)).trans h3
  have h4 : F1 (m + 4) = some (.inr (0, 8, fun b9 => .int (nI (r4 b9)))) := (hag9 _ (by omega)).trans h4
  have h5 : F1 (m + 5) = some (.inr (0, 8, fun b9 => .int (nI (w5 b9)))) := (hag9 _ (by omega)).trans h5
  have h6 : F1 (m + 6) = some (.inr (0, 112, fun b9 => .int (nI (b6 b9)))) := (hag9 _ (by omega)).trans h6
  have h7 : F1 (m + 7) = some (.inr (0, 16, fun b9 => .int (nI (d7 b9)))) := (hag9 _ (by omega)).trans h7
  have h8 : F1 (m + 8) = some (.inr (0, 17, fun b9 => .int (nI (b8 b9)))) := (hag9 _ (by omega)).trans h8
  have h9 : F1 (m + 9) = some (.inr (1, 40, fun b9 => .int (nI (ln b9)))) := (hag9 _ (by omega)).trans h9
  have hi : F1 (m + 10) = some (.inr (1, 60, fun b9 => .int (nI (ip b9)))) := (hag9 _ (by omega)).trans hi
  have hcm : F1 (m + 11) = some (.inr (0, 183, fun b9 => .int (nI (cs b9)))) := (hag9 _ (by omega)).trans hcm
  have o0 : F1 (m) = some (.inl (10, [.int (nI 0), .ref (m + 1), .int (nI (un)), .int (nI (sv)), .int rs, .ref (m + 2), .ref (m + 3), .ref (m + 4), .ref (m + 5), .ref (m + 6), .int (nI (bm)), .ref (m + 7), .int (nI (dm)), .ref (m + 8), .ref (m + 9), .int (nI (lnn)), .ref (m + 10), .int (nI (pn)), .int (nI (he)), .int er, .int ep, .int fc, .ref (m + 11), .int (nI (cn))])) := j0
  have hag : ∀ a9 : Nat, (a9 < m ∨ m + 12 ≤ a9) → F1 a9 = F a9 := fun a9 q0 => (hag9 a9 (by omega)).trans (hag a9 q0)
  have hg_2 := hag9
  clear hag9
  exact hret _ _ _ _ _ _ _ d_MessageCoderModel_receivedTotal_5 (by decide) (by decide) rfl (⟨congrArg (fun q => some (Value.int (nI q))) (q4), rfl, ⟨_, _, _, _, _, _, _, _, _, _, _, _, _, _, _, _, _, o0, ga, h2, h3, h4, h5, h6, h7, h8, h9, hi, hcm, hg, hln, hip⟩, hag⟩)

theorem d_MessageCoderModel_correctedTotal_0 : decode prog_14_method_96_code 0 = .ok (.aload_n 0, 1) := by decide +kernel
theorem d_MessageCoderModel_correctedTotal_1 : decode prog_14_method_96_code 1 = .ok (.iconst 5, 1) := by decide +kernel
theorem d_MessageCoderModel_correctedTotal_2 : decode prog_14_method_96_code 2 = .ok (.invokevirtual 202, 3) := by decide +kernel
theorem d_MessageCoderModel_correctedTotal_5 : decode prog_14_method_96_code 5 = .ok (.ireturn, 1) := by decide +kernel
set_option maxHeartbeats 4000000 in
set_option maxRecDepth 20000 in
theorem c_MessageCoderModel_correctedTotal {P : xP} {F : xF} {z : Nat} {m : Nat} {th0 : Nat} {M : mcS} (hD : xMD F (m) (th0) (M)) (hI : mInv M) : xM P xy_MessageCoderModel_correctedTotal [.ref m] F (z) 0 0 (fun r9 F9 z9 => r9 = some (.int (nI (M.1.2.2.2.2.2.2.2.1))) ∧ z9 = z ∧ xMD F9 (m) (0) (M) ∧ (∀ a9 : Nat, (a9 < m ∨ m + 12 ≤ a9) → F9 a9 = F a9)) := by
  refine xM_i .int rfl (Nat.le_of_ble_eq_true rfl) (L0 := [some (.ref m)]) rfl rfl fun Θ hC hret => ?_
  have hag : ∀ a9 : Nat, (a9 < m ∨ m + 12 ≤ a9) → F a9 = F a9 := fun a9 _ => rfl
  obtain ⟨A, S, past, ⟨pn, psg⟩, ⟨lnn, lsg⟩, sv, pp, un, ep, fc⟩ := M
  obtain ⟨rs, er, bm, dm, he, cn, g, l2, v3, r4, w5, b6, d7, b8, ln, ip, cs, o0, ga, h2, h3, h4, h5, h6, h7, h8, h9, hi, hcm, hg, hln, hip⟩ := id hD
  obtain ⟨iA, iP, iS, hu8, hup, hs1, hty, hlz, hic, hlc⟩ := id hI
  have o0 : F (m) = some (.inl (10, [.int (nI (th0)), .ref (m + 1), .int (nI (un)), .int (nI (sv)), .int rs, .ref (m + 2), .ref (m + 3), .ref (m + 4), .ref (m + 5), .ref (m + 6), .int (nI (bm)), .ref (m + 7), .int (nI (dm)), .ref (m + 8), .ref (m + 9), .int (nI (lnn)), .ref (m + 10), .int (nI (pn)), .int (nI (he)), .int er, .int ep, .int fc, .ref (m + 11), .int (nI (cn))])) := o0
  have ga : F (m + 1) = some (.inr (0, 4730, fun b9 => .int (nI (g b9)))) := ga
  have h2 : F (m + 2) = some (.inr (0, 8, fun b9 => .int (nI (l2 b9)))) := h2
  have h3 : F (m + 3) = some (.inr (0, 8, fun b9 => .int (nI (v3 b9)))) := h3
  have h4 : F (m + 4) = some (.inr (0, 8, fun b9 => .int (nI (r4 b9)))) := h4
  have h5 : F (m + 5) = some (.inr (0, 8, fun b9 => .int (nI (w5 b9)))) := h5
  have h6 : F (m + 6) = some (.inr (0, 112, fun b9 => .int (nI (b6 b9)))) := h6
  have h7 : F (m + 7) = some (.inr (0, 16, fun b9 => .int (nI (d7 b9)))) := h7
  have h8 : F (m + 8) = some (.inr (0, 17, fun b9 => .int (nI (b8 b9)))) := h8
  have h9 : F (m + 9) = some (.inr (1, 40, fun b9 => .int (nI (ln b9)))) := h9
  have hi : F (m + 10) = some (.inr (1, 60, fun b9 => .int (nI (ip b9)))) := hi
  have hcm : F (m + 11) = some (.inr (0, 183, fun b9 => .int (nI (cs b9)))) := hcm
  have hln : ∀ j, j < lnn → ln j = lsg j := hln
  have hip : ∀ j, j < pn → ip j = psg j := hip
  have iA : aInv A := iA
  have hu8 : un ≤ 8 := hu8
  have hup : un ≤ pp := hup
  have hs1 : sv ≤ 1 := hs1
  have hty : pn ≤ 60 := hty
  have hlz : lnn ≤ 32 := hlz
  have hr : rRow g A := hg.1
  have hA : aInv A := iA
  obtain ⟨⟨q0, q1, q2, q3, q4, q5, q6, q7, q9⟩, qw, qd, qm, qf, qx, qb⟩ := id hr
  obtain ⟨⟨u1, u2, u3, u4, u5⟩, uw, ud, um, uo, ut, ux, ub, un9⟩ := id hA
  refine x_aload_n hC d_MessageCoderModel_correctedTotal_0 rfl rfl ?_
  refine x_iconst hC d_MessageCoderModel_correctedTotal_1 (v := nI 5) (by decide) ?_
  refine x_callV hC kv_MessageCoderModel_202 (c_MessageCoderModel_told (o0 := o0) (ga := ga) (hi := by omega)) o0 rfl rfl (by decide) rfl rfl rfl (Nat.le_of_ble_eq_true rfl) (by decide) d_MessageCoderModel_correctedTotal_2 (fun r9 F9 z9 hp9 => ?_)
  obtain ⟨rfl, h9c, j0, hag9⟩ := hp9
  rw [h9c]
  clear h9c z9
  generalize F9 = F1 at *
  have ga : F1 (m + 1) = some (.inr (0, 4730, fun b9 => .int (nI (g b9)))) := (hag9 _ (by omega)).trans ga
  have h2 : F1 (m + 2) = some (.inr (0, 8, fun b9 => .int (nI (l2 b9)))) := (hag9 _ (by omega)).trans h2
  have h3 : F1 (m + 3) = some (.inr (0, 8, fun b9 => .int (nI (v3 b9)))) := (hag9 _ (by omega)).trans h3
  have h4 : F1 (m + 4) = some (.inr (0, 8, fun b9 => .int (nI (r4 b9)))) := (hag9 _ (by omega)).trans h4
  have h5 : F1 (m + 5) = some (.inr (0, 8, fun b9 => .int (nI (w5 b9)))) := (hag9 _ (by omega)).trans h5
  have h6 : F1 (m + 6) = some (.inr (0, 112, fun b9 => .int (nI (b6 b9)))) := (hag9 _ (by omega)).trans h6
  have h7 : F1 (m + 7) = some (.inr (0, 16, fun b9 => .int (nI (d7 b9)))) := (hag9 _ (by omega)).trans h7
  have h8 : F1 (m + 8) = some (.inr (0, 17, fun b9 => .int (nI (b8 b9)))) := (hag9 _ (by omega)).trans h8
  have h9 : F1 (m + 9) = some (.inr (1, 40, fun b9 => .int (nI (ln b9)))) := (hag9 _ (by omega)).trans h9
  have hi : F1 (m + 10) = some (.inr (1, 60, fun b9 => .int (nI (ip b9)))) := (hag9 _ (by omega)).trans hi
  have hcm : F1 (m + 11) = some (.inr (0, 183, fun b9 => .int (nI (cs b9)))) := (hag9 _ (by omega)).trans hcm
  have o0 : F1 (m) = some (.inl (10, [.int (nI 0), .ref (m + 1), .int (nI (un)), .int (nI (sv)), .int rs, .ref (m + 2), .ref (m + 3), .ref (m + 4), .ref (m + 5), .ref (m + 6), .int (nI (bm)), .ref (m + 7), .int (nI (dm)), .ref (m + 8), .ref (m + 9), .int (nI (lnn)), .ref (m + 10), .int (nI (pn)), .int (nI (he)), .int er, .int ep, .int fc, .ref (m + 11), .int (nI (cn))])) := j0
  have hag : ∀ a9 : Nat, (a9 < m ∨ m + 12 ≤ a9) → F1 a9 = F a9 := fun a9 q0 => (hag9 a9 (by omega)).trans (hag a9 q0)
  have hg_2 := hag9
  clear hag9
  exact hret _ _ _ _ _ _ _ d_MessageCoderModel_correctedTotal_5 (by decide) (by decide) rfl (⟨congrArg (fun q => some (Value.int (nI q))) (q5), rfl, ⟨_, _, _, _, _, _, _, _, _, _, _, _, _, _, _, _, _, o0, ga, h2, h3, h4, h5, h6, h7, h8, h9, hi, hcm, hg, hln, hip⟩, hag⟩)

theorem d_MessageCoderModel_failedTotal_0 : decode prog_14_method_97_code 0 = .ok (.aload_n 0, 1) := by decide +kernel
theorem d_MessageCoderModel_failedTotal_1 : decode prog_14_method_97_code 1 = .ok (.bipush 6, 2) := by decide +kernel
theorem d_MessageCoderModel_failedTotal_3 : decode prog_14_method_97_code 3 = .ok (.invokevirtual 202, 3) := by decide +kernel
theorem d_MessageCoderModel_failedTotal_6 : decode prog_14_method_97_code 6 = .ok (.ireturn, 1) := by decide +kernel
set_option maxHeartbeats 4000000 in
set_option maxRecDepth 20000 in
theorem c_MessageCoderModel_failedTotal {P : xP} {F : xF} {z : Nat} {m : Nat} {th0 : Nat} {M : mcS} (hD : xMD F (m) (th0) (M)) (hI : mInv M) : xM P xy_MessageCoderModel_failedTotal [.ref m] F (z) 0 0 (fun r9 F9 z9 => r9 = some (.int (nI (M.1.2.2.2.2.2.2.2.2))) ∧ z9 = z ∧ xMD F9 (m) (0) (M) ∧ (∀ a9 : Nat, (a9 < m ∨ m + 12 ≤ a9) → F9 a9 = F a9)) := by
  refine xM_i .int rfl (Nat.le_of_ble_eq_true rfl) (L0 := [some (.ref m)]) rfl rfl fun Θ hC hret => ?_
  have hag : ∀ a9 : Nat, (a9 < m ∨ m + 12 ≤ a9) → F a9 = F a9 := fun a9 _ => rfl
  obtain ⟨A, S, past, ⟨pn, psg⟩, ⟨lnn, lsg⟩, sv, pp, un, ep, fc⟩ := M
  obtain ⟨rs, er, bm, dm, he, cn, g, l2, v3, r4, w5, b6, d7, b8, ln, ip, cs, o0, ga, h2, h3, h4, h5, h6, h7, h8, h9, hi, hcm, hg, hln, hip⟩ := id hD
  obtain ⟨iA, iP, iS, hu8, hup, hs1, hty, hlz, hic, hlc⟩ := id hI
  have o0 : F (m) = some (.inl (10, [.int (nI (th0)), .ref (m + 1), .int (nI (un)), .int (nI (sv)), .int rs, .ref (m + 2), .ref (m + 3), .ref (m + 4), .ref (m + 5), .ref (m + 6), .int (nI (bm)), .ref (m + 7), .int (nI (dm)), .ref (m + 8), .ref (m + 9), .int (nI (lnn)), .ref (m + 10), .int (nI (pn)), .int (nI (he)), .int er, .int ep, .int fc, .ref (m + 11), .int (nI (cn))])) := o0
  have ga : F (m + 1) = some (.inr (0, 4730, fun b9 => .int (nI (g b9)))) := ga
  have h2 : F (m + 2) = some (.inr (0, 8, fun b9 => .int (nI (l2 b9)))) := h2
  have h3 : F (m + 3) = some (.inr (0, 8, fun b9 => .int (nI (v3 b9)))) := h3
  have h4 : F (m + 4) = some (.inr (0, 8, fun b9 => .int (nI (r4 b9)))) := h4
  have h5 : F (m + 5) = some (.inr (0, 8, fun b9 => .int (nI (w5 b9)))) := h5
  have h6 : F (m + 6) = some (.inr (0, 112, fun b9 => .int (nI (b6 b9)))) := h6
  have h7 : F (m + 7) = some (.inr (0, 16, fun b9 => .int (nI (d7 b9)))) := h7
  have h8 : F (m + 8) = some (.inr (0, 17, fun b9 => .int (nI (b8 b9)))) := h8
  have h9 : F (m + 9) = some (.inr (1, 40, fun b9 => .int (nI (ln b9)))) := h9
  have hi : F (m + 10) = some (.inr (1, 60, fun b9 => .int (nI (ip b9)))) := hi
  have hcm : F (m + 11) = some (.inr (0, 183, fun b9 => .int (nI (cs b9)))) := hcm
  have hln : ∀ j, j < lnn → ln j = lsg j := hln
  have hip : ∀ j, j < pn → ip j = psg j := hip
  have iA : aInv A := iA
  have hu8 : un ≤ 8 := hu8
  have hup : un ≤ pp := hup
  have hs1 : sv ≤ 1 := hs1
  have hty : pn ≤ 60 := hty
  have hlz : lnn ≤ 32 := hlz
  have hr : rRow g A := hg.1
  have hA : aInv A := iA
  obtain ⟨⟨q0, q1, q2, q3, q4, q5, q6, q7, q9⟩, qw, qd, qm, qf, qx, qb⟩ := id hr
  obtain ⟨⟨u1, u2, u3, u4, u5⟩, uw, ud, um, uo, ut, ux, ub, un9⟩ := id hA
  refine x_aload_n hC d_MessageCoderModel_failedTotal_0 rfl rfl ?_
  refine x_bipush hC d_MessageCoderModel_failedTotal_1 (v := nI 6) (by decide) ?_
  refine x_callV hC kv_MessageCoderModel_202 (c_MessageCoderModel_told (o0 := o0) (ga := ga) (hi := by omega)) o0 rfl rfl (by decide) rfl rfl rfl (Nat.le_of_ble_eq_true rfl) (by decide) d_MessageCoderModel_failedTotal_3 (fun r9 F9 z9 hp9 => ?_)
  obtain ⟨rfl, h9c, j0, hag9⟩ := hp9
  rw [h9c]
  clear h9c z9
  generalize F9 = F1 at *
  have ga : F1 (m + 1) = some (.inr (0, 4730, fun b9 => .int (nI (g b9)))) := (hag9 _ (by omega)).trans ga
  have h2 : F1 (m + 2) = some (.inr (0, 8, fun b9 => .int (nI (l2 b9)))) := (hag9 _ (by omega)).trans h2
  have h3 : F1 (m + 3) = some (.inr (0, 8, fun b9 => .int (nI (v3 b9)))) := (hag9 _ (by omega)).trans h3
  have h4 : F1 (m + 4) = some (.inr (0, 8, fun b9 => .int (nI (r4 b9)))) := (hag9 _ (by omega)).trans h4
  have h5 : F1 (m + 5) = some (.inr (0, 8, fun b9 => .int (nI (w5 b9)))) := (hag9 _ (by omega)).trans h5
  have h6 : F1 (m + 6) = some (.inr (0, 112, fun b9 => .int (nI (b6 b9)))) := (hag9 _ (by omega)).trans h6
  have h7 : F1 (m + 7) = some (.inr (0, 16, fun b9 => .int (nI (d7 b9)))) := (hag9 _ (by omega)).trans h7
  have h8 : F1 (m + 8) = some (.inr (0, 17, fun b9 => .int (nI (b8 b9)))) := (hag9 _ (by omega)).trans h8
  have h9 : F1 (m + 9) = some (.inr (1, 40, fun b9 => .int (nI (ln b9)))) := (hag9 _ (by omega)).trans h9
  have hi : F1 (m + 10) = some (.inr (1, 60, fun b9 => .int (nI (ip b9)))) := (hag9 _ (by omega)).trans hi
  have hcm : F1 (m + 11) = some (.inr (0, 183, fun b9 => .int (nI (cs b9)))) := (hag9 _ (by omega)).trans hcm
  have o0 : F1 (m) = some (.inl (10, [.int (nI 0), .ref (m + 1), .int (nI (un)), .int (nI (sv)), .int rs, .ref (m + 2), .ref (m + 3), .ref (m + 4), .ref (m + 5), .ref (m + 6), .int (nI (bm)), .ref (m + 7), .int (nI (dm)), .ref (m + 8), .ref (m + 9), .int (nI (lnn)), .ref (m + 10), .int (nI (pn)), .int (nI (he)), .int er, .int ep, .int fc, .ref (m + 11), .int (nI (cn))])) := j0
  have hag : ∀ a9 : Nat, (a9 < m ∨ m + 12 ≤ a9) → F1 a9 = F a9 := fun a9 q0 => (hag9 a9 (by omega)).trans (hag a9 q0)
  have hg_3 := hag9
  clear hag9
  exact hret _ _ _ _ _ _ _ d_MessageCoderModel_failedTotal_6 (by decide) (by decide) rfl (⟨congrArg (fun q => some (Value.int (nI q))) (q6), rfl, ⟨_, _, _, _, _, _, _, _, _, _, _, _, _, _, _, _, _, o0, ga, h2, h3, h4, h5, h6, h7, h8, h9, hi, hcm, hg, hln, hip⟩, hag⟩)

theorem d_MessageCoderModel_hasFrame_0 : decode prog_14_method_83_code 0 = .ok (.aload_n 0, 1) := by decide +kernel
theorem d_MessageCoderModel_hasFrame_1 : decode prog_14_method_83_code 1 = .ok (.bipush 7, 2) := by decide +kernel
theorem d_MessageCoderModel_hasFrame_3 : decode prog_14_method_83_code 3 = .ok (.invokevirtual 202, 3) := by decide +kernel
theorem d_MessageCoderModel_hasFrame_6 : decode prog_14_method_83_code 6 = .ok (.ifCond .le 7, 3) := by decide +kernel
theorem d_MessageCoderModel_hasFrame_9 : decode prog_14_method_83_code 9 = .ok (.iconst 1, 1) := by decide +kernel
theorem d_MessageCoderModel_hasFrame_10 : decode prog_14_method_83_code 10 = .ok (.goto 4, 3) := by decide +kernel
theorem d_MessageCoderModel_hasFrame_13 : decode prog_14_method_83_code 13 = .ok (.iconst 0, 1) := by decide +kernel
theorem d_MessageCoderModel_hasFrame_14 : decode prog_14_method_83_code 14 = .ok (.ireturn, 1) := by decide +kernel
set_option maxHeartbeats 4000000 in
set_option maxRecDepth 20000 in
theorem c_MessageCoderModel_hasFrame {P : xP} {F : xF} {z : Nat} {m : Nat} {th0 : Nat} {M : mcS} (hD : xMD F (m) (th0) (M)) (hI : mInv M) : xM P xy_MessageCoderModel_hasFrame [.ref m] F (z) 0 0 (fun r9 F9 z9 => r9 = some (.int (xb (0 < M.1.2.2.2.1.1))) ∧ z9 = z ∧ xMD F9 (m) (0) (M) ∧ (∀ a9 : Nat, (a9 < m ∨ m + 12 ≤ a9) → F9 a9 = F a9)) := by
  refine xM_i .boolean rfl (Nat.le_of_ble_eq_true rfl) (L0 := [some (.ref m)]) rfl rfl fun Θ hC hret => ?_
  have hag : ∀ a9 : Nat, (a9 < m ∨ m + 12 ≤ a9) → F a9 = F a9 := fun a9 _ => rfl
  obtain ⟨A, S, past, ⟨pn, psg⟩, ⟨lnn, lsg⟩, sv, pp, un, ep, fc⟩ := M
  obtain ⟨rs, er, bm, dm, he, cn, g, l2, v3, r4, w5, b6, d7, b8, ln, ip, cs, o0, ga, h2, h3, h4, h5, h6, h7, h8, h9, hi, hcm, hg, hln, hip⟩ := id hD
  obtain ⟨iA, iP, iS, hu8, hup, hs1, hty, hlz, hic, hlc⟩ := id hI
  have o0 : F (m) = some (.inl (10, [.int (nI (th0)), .ref (m + 1), .int (nI (un)), .int (nI (sv)), .int rs, .ref (m + 2), .ref (m + 3), .ref (m + 4), .ref (m + 5), .ref (m + 6), .int (nI (bm)), .ref (m + 7), .int (nI (dm)), .ref (m + 8), .ref (m + 9), .int (nI (lnn)), .ref (m + 10), .int (nI (pn)), .int (nI (he)), .int er, .int ep, .int fc, .ref (m + 11), .int (nI (cn))])) := o0
  have ga : F (m + 1) = some (.inr (0, 4730, fun b9 => .int (nI (g b9)))) := ga
  have h2 : F (m + 2) = some (.inr (0, 8, fun b9 => .int (nI (l2 b9)))) := h2
  have h3 : F (m + 3) = some (.inr (0, 8, fun b9 => .int (nI (v3 b9)))) := h3
  have h4 : F (m + 4) = some (.inr (0, 8, fun b9 => .int (nI (r4 b9)))) := h4
  have h5 : F (m + 5) = some (.inr (0, 8, fun b9 => .int (nI (w5 b9)))) := h5
  have h6 : F (m + 6) = some (.inr (0, 112, fun b9 => .int (nI (b6 b9)))) := h6
  have h7 : F (m + 7) = some (.inr (0, 16, fun b9 => .int (nI (d7 b9)))) := h7
  have h8 : F (m + 8) = some (.inr (0, 17, fun b9 => .int (nI (b8 b9)))) := h8
  have h9 : F (m + 9) = some (.inr (1, 40, fun b9 => .int (nI (ln b9)))) := h9
  have hi : F (m + 10) = some (.inr (1, 60, fun b9 => .int (nI (ip b9)))) := hi
  have hcm : F (m + 11) = some (.inr (0, 183, fun b9 => .int (nI (cs b9)))) := hcm
  have hln : ∀ j, j < lnn → ln j = lsg j := hln
  have hip : ∀ j, j < pn → ip j = psg j := hip
  have iA : aInv A := iA
  have hu8 : un ≤ 8 := hu8
  have hup : un ≤ pp := hup
  have hs1 : sv ≤ 1 := hs1
  have hty : pn ≤ 60 := hty
  have hlz : lnn ≤ 32 := hlz
  have hr : rRow g A := hg.1
  have hA : aInv A := iA
  obtain ⟨⟨q0, q1, q2, q3, q4, q5, q6, q7, q9⟩, qw, qd, qm, qf, qx, qb⟩ := id hr
  obtain ⟨⟨u1, u2, u3, u4, u5⟩, uw, ud, um, uo, ut, ux, ub, un9⟩ := id hA
  refine x_aload_n hC d_MessageCoderModel_hasFrame_0 rfl rfl ?_
  refine x_bipush hC d_MessageCoderModel_hasFrame_1 (v := nI 7) (by decide) ?_
  refine x_callV hC kv_MessageCoderModel_202 (c_MessageCoderModel_told (o0 := o0) (ga := ga) (hi := by omega)) o0 rfl rfl (by decide) rfl rfl rfl (Nat.le_of_ble_eq_true rfl) (by decide) d_MessageCoderModel_hasFrame_3 (fun r9 F9 z9 hp9 => ?_)
  obtain ⟨rfl, h9c, j0, hag9⟩ := hp9
  rw [h9c]
  clear h9c z9
  generalize F9 = F1 at *
  have ga : F1 (m + 1) = some (.inr (0, 4730, fun b9 => .int (nI (g b9)))) := (hag9 _ (by omega)).trans ga
  have h2 : F1 (m + 2) = some (.inr (0, 8, fun b9 => .int (nI (l2 b9)))) := (hag9 _ (by omega)).trans h2
  have h3 : F1 (m + 3) = some (.inr (0, 8, fun b9 => .int (nI (v3 b9)))) := (hag9 _ (by omega)).trans h3
  have h4 : F1 (m + 4) = some (.inr (0, 8, fun b9 => .int (nI (r4 b9)))) := (hag9 _ (by omega)).trans h4
  have h5 : F1 (m + 5) = some (.inr (0, 8, fun b9 => .int (nI (w5 b9)))) := (hag9 _ (by omega)).trans h5
  have h6 : F1 (m + 6) = some (.inr (0, 112, fun b9 => .int (nI (b6 b9)))) := (hag9 _ (by omega)).trans h6
  have h7 : F1 (m + 7) = some (.inr (0, 16, fun b9 => .int (nI (d7 b9)))) := (hag9 _ (by omega)).trans h7
  have h8 : F1 (m + 8) = some (.inr (0, 17, fun b9 => .int (nI (b8 b9)))) := (hag9 _ (by omega)).trans h8
  have h9 : F1 (m + 9) = some (.inr (1, 40, fun b9 => .int (nI (ln b9)))) := (hag9 _ (by omega)).trans h9
  have hi : F1 (m + 10) = some (.inr (1, 60, fun b9 => .int (nI (ip b9)))) := (hag9 _ (by omega)).trans hi
  have hcm : F1 (m + 11) = some (.inr (0, 183, fun b9 => .int (nI (cs b9)))) := (hag9 _ (by omega)).trans hcm
  have o0 : F1 (m) = some (.inl (10, [.int (nI 0), .ref (m + 1), .int (nI (un)), .int (nI (sv)), .int rs, .ref (m + 2), .ref (m + 3), .ref (m + 4), .ref (m + 5), .ref (m + 6), .int (nI (bm)), .ref (m + 7), .int (nI (dm)), .ref (m + 8), .ref (m + 9), .int (nI (lnn)), .ref (m + 10), .int (nI (pn)), .int (nI (he)), .int er, .int ep, .int fc, .ref (m + 11), .int (nI (cn))])) := j0
  have hag : ∀ a9 : Nat, (a9 < m ∨ m + 12 ≤ a9) → F1 a9 = F a9 := fun a9 q0 => (hag9 a9 (by omega)).trans (hag a9 q0)
  have hg_3 := hag9
  clear hag9
  refine x_top (v := (nI (A.2.2.2.1.1 * 7))) (congrArg nI q7) ?_
  refine x_ifN_le hC d_MessageCoderModel_hasFrame_6 (tgt := 13) (by decide) (by omega) (fun c_6 => ?_) (fun c_6 => ?_)
  · skip
    refine x_iconst hC d_MessageCoderModel_hasFrame_13 (v := nI 0) (by decide) ?_
    exact hret _ _ _ _ _ _ _ d_MessageCoderModel_hasFrame_14 (by decide) (by decide) rfl (⟨congrArg (fun q => some (Value.int q)) (xb_f0 (fun h9 : 0 < A.2.2.2.1.1 => by omega)), rfl, ⟨_, _, _, _, _, _, _, _, _, _, _, _, _, _, _, _, _, o0, ga, h2, h3, h4, h5, h6, h7, h8, h9, hi, hcm, hg, hln, hip⟩, hag⟩)
  · skip
    refine x_iconst hC d_MessageCoderModel_hasFrame_9 (v := nI 1) (by decide) ?_
    refine x_goto hC d_MessageCoderModel_hasFrame_10 (tgt := 14) (by decide) ?_
    exact hret _ _ _ _ _ _ _ d_MessageCoderModel_hasFrame_14 (by decide) (by decide) rfl (⟨congrArg (fun q => some (Value.int q)) (xb_t1 (show 0 < A.2.2.2.1.1 by omega)), rfl, ⟨_, _, _, _, _, _, _, _, _, _, _, _, _, _, _, _, _, o0, ga, h2, h3, h4, h5, h6, h7, h8, h9, hi, hcm, hg, hln, hip⟩, hag⟩)

theorem d_MessageCoderModel_messageAt_0 : decode prog_14_method_69_code 0 = .ok (.aload_n 0, 1) := by decide +kernel
theorem d_MessageCoderModel_messageAt_1 : decode prog_14_method_69_code 1 = .ok (.iload_n 1, 1) := by decide +kernel
theorem d_MessageCoderModel_messageAt_2 : decode prog_14_method_69_code 2 = .ok (.invokevirtual 167, 3) := by decide +kernel
theorem d_MessageCoderModel_messageAt_5 : decode prog_14_method_69_code 5 = .ok (.istore_n 2, 1) := by decide +kernel
theorem d_MessageCoderModel_messageAt_6 : decode prog_14_method_69_code 6 = .ok (.aload_n 0, 1) := by decide +kernel
theorem d_MessageCoderModel_messageAt_7 : decode prog_14_method_69_code 7 = .ok (.iload_n 2, 1) := by decide +kernel
theorem d_MessageCoderModel_messageAt_8 : decode prog_14_method_69_code 8 = .ok (.ifCond .lt 7, 3) := by decide +kernel
theorem d_MessageCoderModel_messageAt_11 : decode prog_14_method_69_code 11 = .ok (.iconst 1, 1) := by decide +kernel
theorem d_MessageCoderModel_messageAt_12 : decode prog_14_method_69_code 12 = .ok (.goto 4, 3) := by decide +kernel
theorem d_MessageCoderModel_messageAt_15 : decode prog_14_method_69_code 15 = .ok (.iconst 0, 1) := by decide +kernel
theorem d_MessageCoderModel_messageAt_16 : decode prog_14_method_69_code 16 = .ok (.invokevirtual 195, 3) := by decide +kernel
theorem d_MessageCoderModel_messageAt_19 : decode prog_14_method_69_code 19 = .ok (.ifCond .eq 12, 3) := by decide +kernel
theorem d_MessageCoderModel_messageAt_22 : decode prog_14_method_69_code 22 = .ok (.aload_n 0, 1) := by decide +kernel
theorem d_MessageCoderModel_messageAt_23 : decode prog_14_method_69_code 23 = .ok (.iload_n 2, 1) := by decide +kernel
theorem d_MessageCoderModel_messageAt_24 : decode prog_14_method_69_code 24 = .ok (.iconst 0, 1) := by decide +kernel
theorem d_MessageCoderModel_messageAt_25 : decode prog_14_method_69_code 25 = .ok (.invokevirtual 81, 3) := by decide +kernel
theorem d_MessageCoderModel_messageAt_28 : decode prog_14_method_69_code 28 = .ok (.goto 4, 3) := by decide +kernel
theorem d_MessageCoderModel_messageAt_31 : decode prog_14_method_69_code 31 = .ok (.iconst 0, 1) := by decide +kernel
theorem d_MessageCoderModel_messageAt_32 : decode prog_14_method_69_code 32 = .ok (.ireturn, 1) := by decide +kernel
set_option maxHeartbeats 4000000 in
set_option maxRecDepth 20000 in
theorem c_MessageCoderModel_messageAt {P : xP} {F : xF} {z : Nat} {m : Nat} {th0 : Nat} {M : mcS} {a : Int32} (hD : xMD F (m) (th0) (M)) (hI : mInv M) : xM P xy_MessageCoderModel_messageAt [.ref m, .int a] F (z) 0 0 (fun r9 F9 z9 => r9 = some (.int (nI (if mRk M.1 a < M.1.2.2.1.1 then (M.1.2.2.1.2.2 (mRk M.1 a)).1 else 0))) ∧ z9 = z ∧ xMD F9 (m) ((if mRk M.1 a < M.1.2.2.1.1 then 0 else 1)) (M) ∧ (∀ a9 : Nat, (a9 < m ∨ m + 12 ≤ a9) → F9 a9 = F a9)) := by
  refine xM_i .int rfl (Nat.le_of_ble_eq_true rfl) (L0 := [some (.ref m), some (.int a), none]) rfl rfl fun Θ hC hret => ?_
  have hag : ∀ a9 : Nat, (a9 < m ∨ m + 12 ≤ a9) → F a9 = F a9 := fun a9 _ => rfl
  obtain ⟨A, S, past, ⟨pn, psg⟩, ⟨lnn, lsg⟩, sv, pp, un, ep, fc⟩ := M
  obtain ⟨rs, er, bm, dm, he, cn, g, l2, v3, r4, w5, b6, d7, b8, ln, ip, cs, o0, ga, h2, h3, h4, h5, h6, h7, h8, h9, hi, hcm, hg, hln, hip⟩ := id hD
  obtain ⟨iA, iP, iS, hu8, hup, hs1, hty, hlz, hic, hlc⟩ := id hI
  have o0 : F (m) = some (.inl (10, [.int (nI (th0)), .ref (m + 1), .int (nI (un)), .int (nI (sv)), .int rs, .ref (m + 2), .ref (m + 3), .ref (m + 4), .ref (m + 5), .ref (m + 6), .int (nI (bm)), .ref (m + 7), .int (nI (dm)), .ref (m + 8), .ref (m + 9), .int (nI (lnn)), .ref (m + 10), .int (nI (pn)), .int (nI (he)), .int er, .int ep, .int fc, .ref (m + 11), .int (nI (cn))])) := o0
  have ga : F (m + 1) = some (.inr (0, 4730, fun b9 => .int (nI (g b9)))) := ga
  have h2 : F (m + 2) = some (.inr (0, 8, fun b9 => .int (nI (l2 b9)))) := h2
  have h3 : F (m + 3) = some (.inr (0, 8, fun b9 => .int (nI (v3 b9)))) := h3
  have h4 : F (m + 4) = some (.inr (0, 8, fun b9 => .int (nI (r4 b9)))) := h4
  have h5 : F (m + 5) = some (.inr (0, 8, fun b9 => .int (nI (w5 b9)))) := h5
  have h6 : F (m + 6) = some (.inr (0, 112, fun b9 => .int (nI (b6 b9)))) := h6
  have h7 : F (m + 7) = some (.inr (0, 16, fun b9 => .int (nI (d7 b9)))) := h7
  have h8 : F (m + 8) = some (.inr (0, 17, fun b9 => .int (nI (b8 b9)))) := h8
  have h9 : F (m + 9) = some (.inr (1, 40, fun b9 => .int (nI (ln b9)))) := h9
  have hi : F (m + 10) = some (.inr (1, 60, fun b9 => .int (nI (ip b9)))) := hi
  have hcm : F (m + 11) = some (.inr (0, 183, fun b9 => .int (nI (cs b9)))) := hcm
  have hln : ∀ j, j < lnn → ln j = lsg j := hln
  have hip : ∀ j, j < pn → ip j = psg j := hip
  have iA : aInv A := iA
  have hu8 : un ≤ 8 := hu8
  have hup : un ≤ pp := hup
  have hs1 : sv ≤ 1 := hs1
  have hty : pn ≤ 60 := hty
  have hlz : lnn ≤ 32 := hlz
  have hr : rRow g A := hg.1
  have hA : aInv A := iA
  obtain ⟨⟨q0, q1, q2, q3, q4, q5, q6, q7, q9⟩, qw, qd, qm, qf, qx, qb⟩ := id hr
  obtain ⟨⟨u1, u2, u3, u4, u5⟩, uw, ud, um, uo, ut, ux, ub, un9⟩ := id hA
  refine x_aload_n hC d_MessageCoderModel_messageAt_0 rfl rfl ?_
  refine x_iload_n hC d_MessageCoderModel_messageAt_1 rfl rfl ?_
  refine x_callV hC kv_MessageCoderModel_167 (c_MessageCoderModel_placeAtRank (o0 := o0) (ga := ga) (hr := hr) (hA := hA)) o0 rfl rfl (by decide) rfl rfl rfl (Nat.le_of_ble_eq_true rfl) (by decide) d_MessageCoderModel_messageAt_2 (fun r9 F9 z9 hp9 => ?_)
  obtain ⟨rfl, h9b, h9c⟩ := hp9
  rw [h9b, h9c]
  clear h9b h9c F9 z9
  refine x_istore_n hC d_MessageCoderModel_messageAt_5 rfl (Nat.le_of_ble_eq_true rfl) (L1 := [some (.ref m), some (.int a), some (.int (plc (mRk A a) A.2.2.1.1))]) rfl ?_
  refine x_aload_n hC d_MessageCoderModel_messageAt_6 rfl rfl ?_
  refine x_iload_n hC d_MessageCoderModel_messageAt_7 rfl rfl ?_
  refine x_if_lt hC d_MessageCoderModel_messageAt_8 (tgt := 15) (by decide) (fun c_8 => ?_) (fun c_8 => ?_)
  · skip
    refine x_iconst hC d_MessageCoderModel_messageAt_15 (v := nI 0) (by decide) ?_
    refine x_top (v := (xb (mRk A a < A.2.2.1.1))) (xb_f0 ((plc_lt (by omega)).mp c_8)) ?_
    refine x_callV hC kv_MessageCoderModel_195 (c_MessageCoderModel_isFine (o0 := o0)) o0 rfl rfl (by decide) rfl rfl rfl (Nat.le_of_ble_eq_true rfl) (by decide) d_MessageCoderModel_messageAt_16 (fun r9 F9 z9 hp9 => ?_)
    obtain ⟨rfl, h9c, j0, hag9⟩ := hp9
    rw [h9c]
    clear h9c z9
    generalize F9 = F1 at *
    have ga : F1 (m + 1) = some (.inr (0, 4730, fun b9 => .int (nI (g b9)))) := (hag9 _ (by omega)).trans ga
    have h2 : F1 (m + 2) = some (.inr (0, 8, fun b9 => .int (nI (l2 b9)))) := (hag9 _ (by omega)).trans h2
    have h3 : F1 (m + 3) = some (.inr (0, 8, fun b9 => .int (nI (v3 b9)))) := (hag9 _ (by omega)).trans h3
    have h4 : F1 (m + 4) = some (.inr (0, 8, fun b9 => .int (nI (r4 b9)))) := (hag9 _ (by omega)).trans h4
    have h5 : F1 (m + 5) = some (.inr (0, 8, fun b9 => .int (nI (w5 b9)))) := (hag9 _ (by omega)).trans h5
    have h6 : F1 (m + 6) = some (.inr (0, 112, fun b9 => .int (nI (b6 b9)))) := (hag9 _ (by omega)).trans h6
    have h7 : F1 (m + 7) = some (.inr (0, 16, fun b9 => .int (nI (d7 b9)))) := (hag9 _ (by omega)).trans h7
    have h8 : F1 (m + 8) = some (.inr (0, 17, fun b9 => .int (nI (b8 b9)))) := (hag9 _ (by omega)).trans h8
    have h9 : F1 (m + 9) = some (.inr (1, 40, fun b9 => .int (nI (ln b9)))) := (hag9 _ (by omega)).trans h9
    have hi : F1 (m + 10) = some (.inr (1, 60, fun b9 => .int (nI (ip b9)))) := (hag9 _ (by omega)).trans hi
    have hcm : F1 (m + 11) = some (.inr (0, 183, fun b9 => .int (nI (cs b9)))) := (hag9 _ (by omega)).trans hcm
    have o0 : F1 (m) = some (.inl (10, [.int (nI ((if (mRk A a < A.2.2.1.1) then 0 else 1))), .ref (m + 1), .int (nI (un)), .int (nI (sv)), .int rs, .ref (m + 2), .ref (m + 3), .ref (m + 4), .ref (m + 5), .ref (m + 6), .int (nI (bm)), .ref (m + 7), .int (nI (dm)), .ref (m + 8), .ref (m + 9), .int (nI (lnn)), .ref (m + 10), .int (nI (pn)), .int (nI (he)), .int er, .int ep, .int fc, .ref (m + 11), .int (nI (cn))])) := j0
    have hag : ∀ a9 : Nat, (a9 < m ∨ m + 12 ≤ a9) → F1 a9 = F a9 := fun a9 q0 => (hag9 a9 (by omega)).trans (hag a9 q0)
    have hg_16 := hag9
    clear hag9
    refine x_ifB_eq hC d_MessageCoderModel_messageAt_19 (tgt := 31) (by decide) (fun c_19 => ?_) (fun c_19 => ?_)
    · skip
      refine x_iconst hC d_MessageCoderModel_messageAt_31 (v := nI 0) (by decide) ?_
      exact hret _ _ _ _ _ _ _ d_MessageCoderModel_messageAt_32 (by decide) (by decide) rfl (⟨congrArg (fun q => some (Value.int (nI q))) ((if_neg c_19).symm), rfl, ⟨_, _, _, _, _, _, _, _, _, _, _, _, _, _, _, _, _, o0, ga, h2, h3, h4, h5, h6, h7, h8, h9, hi, hcm, hg, hln, hip⟩, hag⟩)
    · skip
      rw [plc_of c_19]
      refine x_aload_n hC d_MessageCoderModel_messageAt_22 rfl rfl ?_
      refine x_iload_n hC d_MessageCoderModel_messageAt_23 rfl rfl ?_
      refine x_iconst hC d_MessageCoderModel_messageAt_24 (v := nI 0) (by decide) ?_
      refine x_callV hC kv_MessageCoderModel_81 (c_MessageCoderModel_m (o0 := o0) (ga := ga) (hpw := by have : mRk A a < A.2.2.1.1 := c_19; omega)) o0 rfl rfl (by decide) rfl rfl rfl (Nat.le_of_ble_eq_true rfl) (by decide) d_MessageCoderModel_messageAt_25 (fun r9 F9 z9 hp9 => ?_)
      obtain ⟨rfl, h9b, h9c⟩ := hp9
      rw [h9b, h9c]
      clear h9b h9c F9 z9
      refine x_top (v := (nI ((A.2.2.1.2.2 (mRk A a)).1))) (congrArg nI (qm _ c_19).1) ?_
      refine x_goto hC d_MessageCoderModel_messageAt_28 (tgt := 32) (by decide) ?_
      exact hret _ _ _ _ _ _ _ d_MessageCoderModel_messageAt_32 (by decide) (by decide) rfl (⟨congrArg (fun q => some (Value.int (nI q))) ((if_pos c_19).symm), rfl, ⟨_, _, _, _, _, _, _, _, _, _, _, _, _, _, _, _, _, o0, ga, h2, h3, h4, h5, h6, h7, h8, h9, hi, hcm, hg, hln, hip⟩, hag⟩)
  · skip
    refine x_iconst hC d_MessageCoderModel_messageAt_11 (v := nI 1) (by decide) ?_
    refine x_goto hC d_MessageCoderModel_messageAt_12 (tgt := 16) (by decide) ?_
    refine x_top (v := (xb (mRk A a < A.2.2.1.1))) (xb_t1 (Decidable.not_not.mp (fun h9 => c_8 ((plc_lt (by omega)).mpr h9)))) ?_
    refine x_callV hC kv_MessageCoderModel_195 (c_MessageCoderModel_isFine (o0 := o0)) o0 rfl rfl (by decide) rfl rfl rfl (Nat.le_of_ble_eq_true rfl) (by decide) d_MessageCoderModel_messageAt_16 (fun r9 F9 z9 hp9 => ?_)
    obtain ⟨rfl, h9c, j0, hag9⟩ := hp9
    rw [h9c]
    clear h9c z9
    generalize F9 = F2 at *
    have ga : F2 (m + 1) = some (.inr (0, 4730, fun b9 => .int (nI (g b9)))) := (hag9 _ (by omega)).trans ga
    have h2 : F2 (m + 2) = some (.inr (0, 8, fun b9 => .int (nI (l2 b9)))) := (hag9 _ (by omega)).trans h2
    have h3 : F2 (m + 3) = some (.inr (0, 8, fun b9 => .int (nI (v3 b9)))) := (hag9 _ (by omega)).trans h3
    have h4 : F2 (m + 4) = some (.inr (0, 8, fun b9 => .int (nI (r4 b9)))) := (hag9 _ (by omega)).trans h4
    have h5 : F2 (m + 5) = some (.inr (0, 8, fun b9 => .int (nI (w5 b9)))) := (hag9 _ (by omega)).trans h5
    have h6 : F2 (m + 6) = some (.inr (0, 112, fun b9 => .int (nI (b6 b9)))) := (hag9 _ (by omega)).trans h6
    have h7 : F2 (m + 7) = some (.inr (0, 16, fun b9 => .int (nI (d7 b9)))) := (hag9 _ (by omega)).trans h7
    have h8 : F2 (m + 8) = some (.inr (0, 17, fun b9 => .int (nI (b8 b9)))) := (hag9 _ (by omega)).trans h8
    have h9 : F2 (m + 9) = some (.inr (1, 40, fun b9 => .int (nI (ln b9)))) := (hag9 _ (by omega)).trans h9
    have hi : F2 (m + 10) = some (.inr (1, 60, fun b9 => .int (nI (ip b9)))) := (hag9 _ (by omega)).trans hi
    have hcm : F2 (m + 11) = some (.inr (0, 183, fun b9 => .int (nI (cs b9)))) := (hag9 _ (by omega)).trans hcm
    have o0 : F2 (m) = some (.inl (10, [.int (nI ((if (mRk A a < A.2.2.1.1) then 0 else 1))), .ref (m + 1), .int (nI (un)), .int (nI (sv)), .int rs, .ref (m + 2), .ref (m + 3), .ref (m + 4), .ref (m + 5), .ref (m + 6), .int (nI (bm)), .ref (m + 7), .int (nI (dm)), .ref (m + 8), .ref (m + 9), .int (nI (lnn)), .ref (m + 10), .int (nI (pn)), .int (nI (he)), .int er, .int ep, .int fc, .ref (m + 11), .int (nI (cn))])) := j0
    have hag : ∀ a9 : Nat, (a9 < m ∨ m + 12 ≤ a9) → F2 a9 = F a9 := fun a9 q0 => (hag9 a9 (by omega)).trans (hag a9 q0)
    have hg_16 := hag9
    clear hag9
    refine x_ifB_eq hC d_MessageCoderModel_messageAt_19 (tgt := 31) (by decide) (fun c_19 => ?_) (fun c_19 => ?_)
    · skip
      refine x_iconst hC d_MessageCoderModel_messageAt_31 (v := nI 0) (by decide) ?_
      exact hret _ _ _ _ _ _ _ d_MessageCoderModel_messageAt_32 (by decide) (by decide) rfl (⟨congrArg (fun q => some (Value.int (nI q))) ((if_neg c_19).symm), rfl, ⟨_, _, _, _, _, _, _, _, _, _, _, _, _, _, _, _, _, o0, ga, h2, h3, h4, h5, h6, h7, h8, h9, hi, hcm, hg, hln, hip⟩, hag⟩)
    · skip
      rw [plc_of c_19]
      refine x_aload_n hC d_MessageCoderModel_messageAt_22 rfl rfl ?_
      refine x_iload_n hC d_MessageCoderModel_messageAt_23 rfl rfl ?_
      refine x_iconst hC d_MessageCoderModel_messageAt_24 (v := nI 0) (by decide) ?_
      refine x_callV hC kv_MessageCoderModel_81 (c_MessageCoderModel_m (o0 := o0) (ga := ga) (hpw := by have : mRk A a < A.2.2.1.1 := c_19; omega)) o0 rfl rfl (by decide) rfl rfl rfl (Nat.le_of_ble_eq_true rfl) (by decide) d_MessageCoderModel_messageAt_25 (fun r9 F9 z9 hp9 => ?_)
      obtain ⟨rfl, h9b, h9c⟩ := hp9
      rw [h9b, h9c]
      clear h9b h9c F9 z9
      refine x_top (v := (nI ((A.2.2.1.2.2 (mRk A a)).1))) (congrArg nI (qm _ c_19).1) ?_
      refine x_goto hC d_MessageCoderModel_messageAt_28 (tgt := 32) (by decide) ?_
      exact hret _ _ _ _ _ _ _ d_MessageCoderModel_messageAt_32 (by decide) (by decide) rfl (⟨congrArg (fun q => some (Value.int (nI q))) ((if_pos c_19).symm), rfl, ⟨_, _, _, _, _, _, _, _, _, _, _, _, _, _, _, _, _, o0, ga, h2, h3, h4, h5, h6, h7, h8, h9, hi, hcm, hg, hln, hip⟩, hag⟩)

theorem d_MessageCoderModel_ofMessage_0 : decode prog_14_method_70_code 0 = .ok (.aload_n 0, 1) := by decide +kernel
theorem d_MessageCoderModel_ofMessage_1 : decode prog_14_method_70_code 1 = .ok (.aload_n 0, 1) := by decide +kernel
theorem d_MessageCoderModel_ofMessage_2 : decode prog_14_method_70_code 2 = .ok (.iload_n 1, 1) := by decide +kernel
theorem d_MessageCoderModel_ofMessage_3 : decode prog_14_method_70_code 3 = .ok (.invokevirtual 142, 3) := by decide +kernel
theorem d_MessageCoderModel_ofMessage_6 : decode prog_14_method_70_code 6 = .ok (.invokevirtual 195, 3) := by decide +kernel
theorem d_MessageCoderModel_ofMessage_9 : decode prog_14_method_70_code 9 = .ok (.ifCond .eq 16, 3) := by decide +kernel
theorem d_MessageCoderModel_ofMessage_12 : decode prog_14_method_70_code 12 = .ok (.aload_n 0, 1) := by decide +kernel
theorem d_MessageCoderModel_ofMessage_13 : decode prog_14_method_70_code 13 = .ok (.aload_n 0, 1) := by decide +kernel
theorem d_MessageCoderModel_ofMessage_14 : decode prog_14_method_70_code 14 = .ok (.iload_n 1, 1) := by decide +kernel
theorem d_MessageCoderModel_ofMessage_15 : decode prog_14_method_70_code 15 = .ok (.invokevirtual 85, 3) := by decide +kernel
theorem d_MessageCoderModel_ofMessage_18 : decode prog_14_method_70_code 18 = .ok (.iload_n 2, 1) := by decide +kernel
theorem d_MessageCoderModel_ofMessage_19 : decode prog_14_method_70_code 19 = .ok (.invokevirtual 81, 3) := by decide +kernel
theorem d_MessageCoderModel_ofMessage_22 : decode prog_14_method_70_code 22 = .ok (.goto 4, 3) := by decide +kernel
theorem d_MessageCoderModel_ofMessage_25 : decode prog_14_method_70_code 25 = .ok (.iconst 0, 1) := by decide +kernel
theorem d_MessageCoderModel_ofMessage_26 : decode prog_14_method_70_code 26 = .ok (.ireturn, 1) := by decide +kernel
set_option maxHeartbeats 4000000 in
set_option maxRecDepth 20000 in
theorem c_MessageCoderModel_ofMessage {P : xP} {F : xF} {z : Nat} {m : Nat} {th : Nat} {ch : Nat} {sv : Nat} {rs : Int32} {bm : Nat} {dm : Nat} {lz : Nat} {ty : Nat} {he : Nat} {er : Int32} {ea : Int32} {fa : Int32} {cn : Nat} {g : Nat → Nat} {A : aS} {a : Int32} {u : Nat} (o0 : F (m) = some (.inl (10, [.int (nI (th)), .ref (m + 1), .int (nI (ch)), .int (nI (sv)), .int rs, .ref (m + 2), .ref (m + 3), .ref (m + 4), .ref (m + 5), .ref (m + 6), .int (nI (bm)), .ref (m + 7), .int (nI (dm)), .ref (m + 8), .ref (m + 9), .int (nI (lz)), .ref (m + 10), .int (nI (ty)), .int (nI (he)), .int er, .int ea, .int fa, .ref (m + 11), .int (nI (cn))]))) (ga : F (m + 1) = some (.inr (0, 4730, fun b9 => .int (nI (g b9))))) (hr : rRow g A) (hA : aInv A) (hu : u < 19) : xM P xy_MessageCoderModel_ofMessage [.ref m, .int a, .int (nI (u))] F (z) 0 0 (fun r9 F9 z9 => r9 = some (.int (nI (if mOk A a then g (34 + 19 * mIx A a + u) else 0))) ∧ z9 = z ∧ F9 (m) = some (.inl (10, [.int (nI ((if mOk A a then 0 else 1))), .ref (m + 1), .int (nI (ch)), .int (nI (sv)), .int rs, .ref (m + 2), .ref (m + 3), .ref (m + 4), .ref (m + 5), .ref (m + 6), .int (nI (bm)), .ref (m + 7), .int (nI (dm)), .ref (m + 8), .ref (m + 9), .int (nI (lz)), .ref (m + 10), .int (nI (ty)), .int (nI (he)), .int er, .int ea, .int fa, .ref (m + 11), .int (nI (cn))])) ∧ F9 (m + 1) = some (.inr (0, 4730, fun b9 => .int (nI (g b9)))) ∧ (∀ a9 : Nat, (a9 < m ∨ m + 1 ≤ a9) → F9 a9 = F a9)) := by
  refine xM_i .int rfl (Nat.le_of_ble_eq_true rfl) (L0 := [some (.ref m), some (.int a), some (.int (nI (u)))]) rfl rfl fun Θ hC hret => ?_
  have hag : ∀ a9 : Nat, (a9 < m ∨ m + 1 ≤ a9) → F a9 = F a9 := fun a9 _ => rfl
  obtain ⟨⟨q0, q1, q2, q3, q4, q5, q6, q7, q9⟩, qw, qd, qm, qf, qx, qb⟩ := id hr
  obtain ⟨⟨u1, u2, u3, u4, u5⟩, uw, ud, um, uo, ut, ux, ub, un9⟩ := id hA
  refine x_aload_n hC d_MessageCoderModel_ofMessage_0 rfl rfl ?_
  refine x_aload_n hC d_MessageCoderModel_ofMessage_1 rfl rfl ?_
  refine x_iload_n hC d_MessageCoderModel_ofMessage_2 rfl rfl ?_
  refine x_callV hC kv_MessageCoderModel_142 (c_MessageCoderModel_isThere (o0 := o0) (ga := ga) (hr := hr) (hA := hA)) o0 rfl rfl (by decide) rfl rfl rfl (Nat.le_of_ble_eq_true rfl) (by decide) d_MessageCoderModel_ofMessage_3 (fun r9 F9 z9 hp9 => ?_)
  obtain ⟨rfl, h9b, h9c⟩ := hp9
  rw [h9b, h9c]
  clear h9b h9c F9 z9
  refine x_callV hC kv_MessageCoderModel_195 (c_MessageCoderModel_isFine (o0 := o0)) o0 rfl rfl (by decide) rfl rfl rfl (Nat.le_of_ble_eq_true rfl) (by decide) d_MessageCoderModel_ofMessage_6 (fun r9 F9 z9 hp9 => ?_)
  obtain ⟨rfl, h9c, j0, hag9⟩ := hp9
  rw [h9c]
  clear h9c z9
  generalize F9 = F1 at *
  have ga : F1 (m + 1) = some (.inr (0, 4730, fun b9 => .int (nI (g b9)))) := (hag9 _ (by omega)).trans ga
  have o0 : F1 (m) = some (.inl (10, [.int (nI ((if (mOk A a) then 0 else 1))), .ref (m + 1), .int (nI (ch)), .int (nI (sv)), .int rs, .ref (m + 2), .ref (m + 3), .ref (m + 4), .ref (m + 5), .ref (m + 6), .int (nI (bm)), .ref (m + 7), .int (nI (dm)), .ref (m + 8), .ref (m + 9), .int (nI (lz)), .ref (m + 10), .int (nI (ty)), .int (nI (he)), .int er, .int ea, .int fa, .ref (m + 11), .int (nI (cn))])) := j0
  have hag : ∀ a9 : Nat, (a9 < m ∨ m + 1 ≤ a9) → F1 a9 = F a9 := fun a9 q0 => (hag9 a9 (by omega)).trans (hag a9 q0)
  have hg_6 := hag9
  clear hag9
  refine x_ifB_eq hC d_MessageCoderModel_ofMessage_9 (tgt := 25) (by decide) (fun c_9 => ?_) (fun c_9 => ?_)
  · skip
    refine x_iconst hC d_MessageCoderModel_ofMessage_25 (v := nI 0) (by decide) ?_
    exact hret _ _ _ _ _ _ _ d_MessageCoderModel_ofMessage_26 (by decide) (by decide) rfl (⟨congrArg (fun q => some (Value.int (nI q))) ((if_neg c_9).symm), rfl, o0, ga, hag⟩)
  · skip
    refine x_aload_n hC d_MessageCoderModel_ofMessage_12 rfl rfl ?_
    refine x_aload_n hC d_MessageCoderModel_ofMessage_13 rfl rfl ?_
    refine x_iload_n hC d_MessageCoderModel_ofMessage_14 rfl rfl ?_
    refine x_callV hC kv_MessageCoderModel_85 (c_MessageCoderModel_place (o0 := o0) (ga := ga) (hr := hr) (hA := hA)) o0 rfl rfl (by decide) rfl rfl rfl (Nat.le_of_ble_eq_true rfl) (by decide) d_MessageCoderModel_ofMessage_15 (fun r9 F9 z9 hp9 => ?_)
    obtain ⟨rfl, h9b, h9c⟩ := hp9
    rw [h9b, h9c]
    clear h9b h9c F9 z9
    have hpa : mIx A a < A.2.2.1.1 := c_9
    refine x_top (v := (nI (mIx A a))) (plc_of c_9) ?_
    refine x_iload_n hC d_MessageCoderModel_ofMessage_18 rfl rfl ?_
    refine x_callV hC kv_MessageCoderModel_81 (c_MessageCoderModel_m (o0 := o0) (ga := ga) (hpw := by omega)) o0 rfl rfl (by decide) rfl rfl rfl (Nat.le_of_ble_eq_true rfl) (by decide) d_MessageCoderModel_ofMessage_19 (fun r9 F9 z9 hp9 => ?_)
    obtain ⟨rfl, h9b, h9c⟩ := hp9
    rw [h9b, h9c]
    clear h9b h9c F9 z9
    refine x_goto hC d_MessageCoderModel_ofMessage_22 (tgt := 26) (by decide) ?_
    exact hret _ _ _ _ _ _ _ d_MessageCoderModel_ofMessage_26 (by decide) (by decide) rfl (⟨congrArg (fun q => some (Value.int (nI q))) ((if_pos c_9).symm), rfl, o0, ga, hag⟩)

theorem d_MessageCoderModel_priorityOf_0 : decode prog_14_method_71_code 0 = .ok (.aload_n 0, 1) := by decide +kernel
theorem d_MessageCoderModel_priorityOf_1 : decode prog_14_method_71_code 1 = .ok (.iload_n 1, 1) := by decide +kernel
theorem d_MessageCoderModel_priorityOf_2 : decode prog_14_method_71_code 2 = .ok (.iconst 1, 1) := by decide +kernel
theorem d_MessageCoderModel_priorityOf_3 : decode prog_14_method_71_code 3 = .ok (.invokevirtual 205, 3) := by decide +kernel
theorem d_MessageCoderModel_priorityOf_6 : decode prog_14_method_71_code 6 = .ok (.ireturn, 1) := by decide +kernel
set_option maxHeartbeats 4000000 in
set_option maxRecDepth 20000 in
theorem c_MessageCoderModel_priorityOf {P : xP} {F : xF} {z : Nat} {m : Nat} {th0 : Nat} {M : mcS} {a : Int32} (hD : xMD F (m) (th0) (M)) (hI : mInv M) : xM P xy_MessageCoderModel_priorityOf [.ref m, .int a] F (z) 0 0 (fun r9 F9 z9 => r9 = some (.int (nI (if mOk M.1 a then (mAt M.1 a).2.1 else 0))) ∧ z9 = z ∧ xMD F9 (m) ((if mOk M.1 a then 0 else 1)) (M) ∧ (∀ a9 : Nat, (a9 < m ∨ m + 12 ≤ a9) → F9 a9 = F a9)) := by
  refine xM_i .int rfl (Nat.le_of_ble_eq_true rfl) (L0 := [some (.ref m), some (.int a)]) rfl rfl fun Θ hC hret => ?_
  have hag : ∀ a9 : Nat, (a9 < m ∨ m + 12 ≤ a9) → F a9 = F a9 := fun a9 _ => rfl
  obtain ⟨A, S, past, ⟨pn, psg⟩, ⟨lnn, lsg⟩, sv, pp, un, ep, fc⟩ := M
  obtain ⟨rs, er, bm, dm, he, cn, g, l2, v3, r4, w5, b6, d7, b8, ln, ip, cs, o0, ga, h2, h3, h4, h5, h6, h7, h8, h9, hi, hcm, hg, hln, hip⟩ := id hD
  obtain ⟨iA, iP, iS, hu8, hup, hs1, hty, hlz, hic, hlc⟩ := id hI
  have o0 : F (m) = some (.inl (10, [.int (nI (th0)), .ref (m + 1), .int (nI (un)), .int (nI (sv)), .int rs, .ref (m + 2), .ref (m + 3), .ref (m + 4), .ref (m + 5), .ref (m + 6), .int (nI (bm)), .ref (m + 7), .int (nI (dm)), .ref (m + 8), .ref (m + 9), .int (nI (lnn)), .ref (m + 10), .int (nI (pn)), .int (nI (he)), .int er, .int ep, .int fc, .ref (m + 11), .int (nI (cn))])) := o0
  have ga : F (m + 1) = some (.inr (0, 4730, fun b9 => .int (nI (g b9)))) := ga
  have h2 : F (m + 2) = some (.inr (0, 8, fun b9 => .int (nI (l2 b9)))) := h2
  have h3 : F (m + 3) = some (.inr (0, 8, fun b9 => .int (nI (v3 b9)))) := h3
  have h4 : F (m + 4) = some (.inr (0, 8, fun b9 => .int (nI (r4 b9)))) := h4
  have h5 : F (m + 5) = some (.inr (0, 8, fun b9 => .int (nI (w5 b9)))) := h5
  have h6 : F (m + 6) = some (.inr (0, 112, fun b9 => .int (nI (b6 b9)))) := h6
  have h7 : F (m + 7) = some (.inr (0, 16, fun b9 => .int (nI (d7 b9)))) := h7
  have h8 : F (m + 8) = some (.inr (0, 17, fun b9 => .int (nI (b8 b9)))) := h8
  have h9 : F (m + 9) = some (.inr (1, 40, fun b9 => .int (nI (ln b9)))) := h9
  have hi : F (m + 10) = some (.inr (1, 60, fun b9 => .int (nI (ip b9)))) := hi
  have hcm : F (m + 11) = some (.inr (0, 183, fun b9 => .int (nI (cs b9)))) := hcm
  have hln : ∀ j, j < lnn → ln j = lsg j := hln
  have hip : ∀ j, j < pn → ip j = psg j := hip
  have iA : aInv A := iA
  have hu8 : un ≤ 8 := hu8
  have hup : un ≤ pp := hup
  have hs1 : sv ≤ 1 := hs1
  have hty : pn ≤ 60 := hty
  have hlz : lnn ≤ 32 := hlz
  have hr : rRow g A := hg.1
  have hA : aInv A := iA
  obtain ⟨⟨q0, q1, q2, q3, q4, q5, q6, q7, q9⟩, qw, qd, qm, qf, qx, qb⟩ := id hr
  obtain ⟨⟨u1, u2, u3, u4, u5⟩, uw, ud, um, uo, ut, ux, ub, un9⟩ := id hA
  refine x_aload_n hC d_MessageCoderModel_priorityOf_0 rfl rfl ?_
  refine x_iload_n hC d_MessageCoderModel_priorityOf_1 rfl rfl ?_
  refine x_iconst hC d_MessageCoderModel_priorityOf_2 (v := nI 1) (by decide) ?_
  refine x_callV hC kv_MessageCoderModel_205 (c_MessageCoderModel_ofMessage (o0 := o0) (ga := ga) (hr := hr) (hA := hA) (hu := by omega)) o0 rfl rfl (by decide) rfl rfl rfl (Nat.le_of_ble_eq_true rfl) (by decide) d_MessageCoderModel_priorityOf_3 (fun r9 F9 z9 hp9 => ?_)
  obtain ⟨rfl, h9c, j0, j1, hag9⟩ := hp9
  rw [h9c]
  clear h9c z9
  generalize F9 = F1 at *
  have h2 : F1 (m + 2) = some (.inr (0, 8, fun b9 => .int (nI (l2 b9)))) := (hag9 _ (by omega)).trans h2
  have h3 : F1 (m + 3) = some (.inr (0, 8, fun b9 => .int (nI (v3 b9)))) := (hag9 _ (by omega)).trans h3
  have h4 : F1 (m + 4) = some (.inr (0, 8, fun b9 => .int (nI (r4 b9)))) := (hag9 _ (by omega)).trans h4
  have h5 : F1 (m + 5) = some (.inr (0, 8, fun b9 => .int (nI (w5 b9)))) := (hag9 _ (by omega)).trans h5
  have h6 : F1 (m + 6) = some (.inr (0, 112, fun b9 => .int (nI (b6 b9)))) := (hag9 _ (by omega)).trans h6
  have h7 : F1 (m + 7) = some (.inr (0, 16, fun b9 => .int (nI (d7 b9)))) := (hag9 _ (by omega)).trans h7
  have h8 : F1 (m + 8) = some (.inr (0, 17, fun b9 => .int (nI (b8 b9)))) := (hag9 _ (by omega)).trans h8
  have h9 : F1 (m + 9) = some (.inr (1, 40, fun b9 => .int (nI (ln b9)))) := (hag9 _ (by omega)).trans h9
  have hi : F1 (m + 10) = some (.inr (1, 60, fun b9 => .int (nI (ip b9)))) := (hag9 _ (by omega)).trans hi
  have hcm : F1 (m + 11) = some (.inr (0, 183, fun b9 => .int (nI (cs b9)))) := (hag9 _ (by omega)).trans hcm
  have o0 : F1 (m) = some (.inl (10, [.int (nI ((if mOk A a then 0 else 1))), .ref (m + 1), .int (nI (un)), .int (nI (sv)), .int rs, .ref (m + 2), .ref (m + 3), .ref (m + 4), .ref (m + 5), .ref (m + 6), .int (nI (bm)), .ref (m + 7), .int (nI (dm)), .ref (m + 8), .ref (m + 9), .int (nI (lnn)), .ref (m + 10), .int (nI (pn)), .int (nI (he)), .int er, .int ep, .int fc, .ref (m + 11), .int (nI (cn))])) := j0
  have ga : F1 (m + 1) = some (.inr (0, 4730, fun b9 => .int (nI (g b9)))) := j1
  have hag : ∀ a9 : Nat, (a9 < m ∨ m + 12 ≤ a9) → F1 a9 = F a9 := fun a9 q0 => (hag9 a9 (by omega)).trans (hag a9 q0)
  have hg_3 := hag9
  clear hag9
  exact hret _ _ _ _ _ _ _ d_MessageCoderModel_priorityOf_6 (by decide) (by decide) rfl (⟨congrArg (fun q => some (Value.int (nI q))) ((by show (if mOk A a then g (34 + 19 * mIx A a + 1) else 0) = (if mOk A a then (A.2.2.1.2.2 (mIx A a)).2.1 else 0); by_cases h9 : mOk A a; (rw [if_pos h9, if_pos h9]; exact (qm _ h9).2.1); (rw [if_neg h9, if_neg h9]))), rfl, ⟨_, _, _, _, _, _, _, _, _, _, _, _, _, _, _, _, _, o0, ga, h2, h3, h4, h5, h6, h7, h8, h9, hi, hcm, hg, hln, hip⟩, hag⟩)

theorem d_MessageCoderModel_lengthOf_0 : decode prog_14_method_72_code 0 = .ok (.aload_n 0, 1) := by decide +kernel
theorem d_MessageCoderModel_lengthOf_1 : decode prog_14_method_72_code 1 = .ok (.iload_n 1, 1) := by decide +kernel
theorem d_MessageCoderModel_lengthOf_2 : decode prog_14_method_72_code 2 = .ok (.iconst 2, 1) := by decide +kernel
theorem d_MessageCoderModel_lengthOf_3 : decode prog_14_method_72_code 3 = .ok (.invokevirtual 205, 3) := by decide +kernel
theorem d_MessageCoderModel_lengthOf_6 : decode prog_14_method_72_code 6 = .ok (.ireturn, 1) := by decide +kernel
set_option maxHeartbeats 4000000 in
set_option maxRecDepth 20000 in
theorem c_MessageCoderModel_lengthOf {P : xP} {F : xF} {z : Nat} {m : Nat} {th0 : Nat} {M : mcS} {a : Int32} (hD : xMD F (m) (th0) (M)) (hI : mInv M) : xM P xy_MessageCoderModel_lengthOf [.ref m, .int a] F (z) 0 0 (fun r9 F9 z9 => r9 = some (.int (nI (if mOk M.1 a then (mAt M.1 a).2.2.1 else 0))) ∧ z9 = z ∧ xMD F9 (m) ((if mOk M.1 a then 0 else 1)) (M) ∧ (∀ a9 : Nat, (a9 < m ∨ m + 12 ≤ a9) → F9 a9 = F a9)) := by
  refine xM_i .int rfl (Nat.le_of_ble_eq_true rfl) (L0 := [some (.ref m), some (.int a)]) rfl rfl fun Θ hC hret => ?_
  have hag : ∀ a9 : Nat, (a9 < m ∨ m + 12 ≤ a9) → F a9 = F a9 := fun a9 _ => rfl
  obtain ⟨A, S, past, ⟨pn, psg⟩, ⟨lnn, lsg⟩, sv, pp, un, ep, fc⟩ := M
  obtain ⟨rs, er, bm, dm, he, cn, g, l2, v3, r4, w5, b6, d7, b8, ln, ip, cs, o0, ga, h2, h3, h4, h5, h6, h7, h8, h9, hi, hcm, hg, hln, hip⟩ := id hD
  obtain ⟨iA, iP, iS, hu8, hup, hs1, hty, hlz, hic, hlc⟩ := id hI
  have o0 : F (m) = some (.inl (10, [.int (nI (th0)), .ref (m + 1), .int (nI (un)), .int (nI (sv)), .int rs, .ref (m + 2), .ref (m + 3), .ref (m + 4), .ref (m + 5), .ref (m + 6), .int (nI (bm)), .ref (m + 7), .int (nI (dm)), .ref (m + 8), .ref (m + 9), .int (nI (lnn)), .ref (m + 10), .int (nI (pn)), .int (nI (he)), .int er, .int ep, .int fc, .ref (m + 11), .int (nI (cn))])) := o0
  have ga : F (m + 1) = some (.inr (0, 4730, fun b9 => .int (nI (g b9)))) := ga
  have h2 : F (m + 2) = some (.inr (0, 8, fun b9 => .int (nI (l2 b9)))) := h2
  have h3 : F (m + 3) = some (.inr (0, 8, fun b9 => .int (nI (v3 b9)))) := h3
  have h4 : F (m + 4) = some (.inr (0, 8, fun b9 => .int (nI (r4 b9)))) := h4
  have h5 : F (m + 5) = some (.inr (0, 8, fun b9 => .int (nI (w5 b9)))) := h5
  have h6 : F (m + 6) = some (.inr (0, 112, fun b9 => .int (nI (b6 b9)))) := h6
  have h7 : F (m + 7) = some (.inr (0, 16, fun b9 => .int (nI (d7 b9)))) := h7
  have h8 : F (m + 8) = some (.inr (0, 17, fun b9 => .int (nI (b8 b9)))) := h8
  have h9 : F (m + 9) = some (.inr (1, 40, fun b9 => .int (nI (ln b9)))) := h9
  have hi : F (m + 10) = some (.inr (1, 60, fun b9 => .int (nI (ip b9)))) := hi
  have hcm : F (m + 11) = some (.inr (0, 183, fun b9 => .int (nI (cs b9)))) := hcm
  have hln : ∀ j, j < lnn → ln j = lsg j := hln
  have hip : ∀ j, j < pn → ip j = psg j := hip
  have iA : aInv A := iA
  have hu8 : un ≤ 8 := hu8
  have hup : un ≤ pp := hup
  have hs1 : sv ≤ 1 := hs1
  have hty : pn ≤ 60 := hty
  have hlz : lnn ≤ 32 := hlz
  have hr : rRow g A := hg.1
  have hA : aInv A := iA
  obtain ⟨⟨q0, q1, q2, q3, q4, q5, q6, q7, q9⟩, qw, qd, qm, qf, qx, qb⟩ := id hr
  obtain ⟨⟨u1, u2, u3, u4, u5⟩, uw, ud, um, uo, ut, ux, ub, un9⟩ := id hA
  refine x_aload_n hC d_MessageCoderModel_lengthOf_0 rfl rfl ?_
  refine x_iload_n hC d_MessageCoderModel_lengthOf_1 rfl rfl ?_
  refine x_iconst hC d_MessageCoderModel_lengthOf_2 (v := nI 2) (by decide) ?_
  refine x_callV hC kv_MessageCoderModel_205 (c_MessageCoderModel_ofMessage (o0 := o0) (ga := ga) (hr := hr) (hA := hA) (hu := by omega)) o0 rfl rfl (by decide) rfl rfl rfl (Nat.le_of_ble_eq_true rfl) (by decide) d_MessageCoderModel_lengthOf_3 (fun r9 F9 z9 hp9 => ?_)
  obtain ⟨rfl, h9c, j0, j1, hag9⟩ := hp9
  rw [h9c]
  clear h9c z9
  generalize F9 = F1 at *
  have h2 : F1 (m + 2) = some (.inr (0, 8, fun b9 => .int (nI (l2 b9)))) := (hag9 _ (by omega)).trans h2
  have h3 : F1 (m + 3) = some (.inr (0, 8, fun b9 => .int (nI (v3 b9)))) := (hag9 _ (by omega)).trans h3
  have h4 : F1 (m + 4) = some (.inr (0, 8, fun b9 => .int (nI (r4 b9)))) := (hag9 _ (by omega)).trans h4
  have h5 : F1 (m + 5) = some (.inr (0, 8, fun b9 => .int (nI (w5 b9)))) := (hag9 _ (by omega)).trans h5
  have h6 : F1 (m + 6) = some (.inr (0, 112, fun b9 => .int (nI (b6 b9)))) := (hag9 _ (by omega)).trans h6
  have h7 : F1 (m + 7) = some (.inr (0, 16, fun b9 => .int (nI (d7 b9)))) := (hag9 _ (by omega)).trans h7
  have h8 : F1 (m + 8) = some (.inr (0, 17, fun b9 => .int (nI (b8 b9)))) := (hag9 _ (by omega)).trans h8
  have h9 : F1 (m + 9) = some (.inr (1, 40, fun b9 => .int (nI (ln b9)))) := (hag9 _ (by omega)).trans h9
  have hi : F1 (m + 10) = some (.inr (1, 60, fun b9 => .int (nI (ip b9)))) := (hag9 _ (by omega)).trans hi
  have hcm : F1 (m + 11) = some (.inr (0, 183, fun b9 => .int (nI (cs b9)))) := (hag9 _ (by omega)).trans hcm
  have o0 : F1 (m) = some (.inl (10, [.int (nI ((if mOk A a then 0 else 1))), .ref (m + 1), .int (nI (un)), .int (nI (sv)), .int rs, .ref (m + 2), .ref (m + 3), .ref (m + 4), .ref (m + 5), .ref (m + 6), .int (nI (bm)), .ref (m + 7), .int (nI (dm)), .ref (m + 8), .ref (m + 9), .int (nI (lnn)), .ref (m + 10), .int (nI (pn)), .int (nI (he)), .int er, .int ep, .int fc, .ref (m + 11), .int (nI (cn))])) := j0
  have ga : F1 (m + 1) = some (.inr (0, 4730, fun b9 => .int (nI (g b9)))) := j1
  have hag : ∀ a9 : Nat, (a9 < m ∨ m + 12 ≤ a9) → F1 a9 = F a9 := fun a9 q0 => (hag9 a9 (by omega)).trans (hag a9 q0)
  have hg_3 := hag9
  clear hag9
  exact hret _ _ _ _ _ _ _ d_MessageCoderModel_lengthOf_6 (by decide) (by decide) rfl (⟨congrArg (fun q => some (Value.int (nI q))) ((by show (if mOk A a then g (34 + 19 * mIx A a + 2) else 0) = (if mOk A a then (A.2.2.1.2.2 (mIx A a)).2.2.1 else 0); by_cases h9 : mOk A a; (rw [if_pos h9, if_pos h9]; exact (qm _ h9).2.2.1); (rw [if_neg h9, if_neg h9]))), rfl, ⟨_, _, _, _, _, _, _, _, _, _, _, _, _, _, _, _, _, o0, ga, h2, h3, h4, h5, h6, h7, h8, h9, hi, hcm, hg, hln, hip⟩, hag⟩)

theorem d_MessageCoderModel_symbolAt_0 : decode prog_14_method_73_code 0 = .ok (.aload_n 0, 1) := by decide +kernel
theorem d_MessageCoderModel_symbolAt_1 : decode prog_14_method_73_code 1 = .ok (.aload_n 0, 1) := by decide +kernel
theorem d_MessageCoderModel_symbolAt_2 : decode prog_14_method_73_code 2 = .ok (.iload_n 1, 1) := by decide +kernel
theorem d_MessageCoderModel_symbolAt_3 : decode prog_14_method_73_code 3 = .ok (.invokevirtual 142, 3) := by decide +kernel
theorem d_MessageCoderModel_symbolAt_6 : decode prog_14_method_73_code 6 = .ok (.ifCond .ne 7, 3) := by decide +kernel
theorem d_MessageCoderModel_symbolAt_9 : decode prog_14_method_73_code 9 = .ok (.iconst 1, 1) := by decide +kernel
theorem d_MessageCoderModel_symbolAt_10 : decode prog_14_method_73_code 10 = .ok (.goto 28, 3) := by decide +kernel
theorem d_MessageCoderModel_symbolAt_13 : decode prog_14_method_73_code 13 = .ok (.iload_n 2, 1) := by decide +kernel
theorem d_MessageCoderModel_symbolAt_14 : decode prog_14_method_73_code 14 = .ok (.iconst 0, 1) := by decide +kernel
theorem d_MessageCoderModel_symbolAt_15 : decode prog_14_method_73_code 15 = .ok (.aload_n 0, 1) := by decide +kernel
theorem d_MessageCoderModel_symbolAt_16 : decode prog_14_method_73_code 16 = .ok (.aload_n 0, 1) := by decide +kernel
theorem d_MessageCoderModel_symbolAt_17 : decode prog_14_method_73_code 17 = .ok (.iload_n 1, 1) := by decide +kernel
theorem d_MessageCoderModel_symbolAt_18 : decode prog_14_method_73_code 18 = .ok (.invokevirtual 85, 3) := by decide +kernel
theorem d_MessageCoderModel_symbolAt_21 : decode prog_14_method_73_code 21 = .ok (.iconst 2, 1) := by decide +kernel
theorem d_MessageCoderModel_symbolAt_22 : decode prog_14_method_73_code 22 = .ok (.invokevirtual 81, 3) := by decide +kernel
theorem d_MessageCoderModel_symbolAt_25 : decode prog_14_method_73_code 25 = .ok (.iconst 1, 1) := by decide +kernel
theorem d_MessageCoderModel_symbolAt_26 : decode prog_14_method_73_code 26 = .ok (.isub, 1) := by decide +kernel
theorem d_MessageCoderModel_symbolAt_27 : decode prog_14_method_73_code 27 = .ok (.invokestatic 64, 3) := by decide +kernel
theorem d_MessageCoderModel_symbolAt_30 : decode prog_14_method_73_code 30 = .ok (.ifCond .ne 7, 3) := by decide +kernel
theorem d_MessageCoderModel_symbolAt_33 : decode prog_14_method_73_code 33 = .ok (.iconst 2, 1) := by decide +kernel
theorem d_MessageCoderModel_symbolAt_34 : decode prog_14_method_73_code 34 = .ok (.goto 4, 3) := by decide +kernel
theorem d_MessageCoderModel_symbolAt_37 : decode prog_14_method_73_code 37 = .ok (.iconst 0, 1) := by decide +kernel
theorem d_MessageCoderModel_symbolAt_38 : decode prog_14_method_73_code 38 = .ok (.putfield 51, 3) := by decide +kernel
theorem d_MessageCoderModel_symbolAt_41 : decode prog_14_method_73_code 41 = .ok (.aload_n 0, 1) := by decide +kernel
theorem d_MessageCoderModel_symbolAt_42 : decode prog_14_method_73_code 42 = .ok (.getfield 51, 3) := by decide +kernel
theorem d_MessageCoderModel_symbolAt_45 : decode prog_14_method_73_code 45 = .ok (.ifCond .ne 22, 3) := by decide +kernel
theorem d_MessageCoderModel_symbolAt_48 : decode prog_14_method_73_code 48 = .ok (.bipush 97, 2) := by decide +kernel
theorem d_MessageCoderModel_symbolAt_50 : decode prog_14_method_73_code 50 = .ok (.aload_n 0, 1) := by decide +kernel
theorem d_MessageCoderModel_symbolAt_51 : decode prog_14_method_73_code 51 = .ok (.aload_n 0, 1) := by decide +kernel
theorem d_MessageCoderModel_symbolAt_52 : decode prog_14_method_73_code 52 = .ok (.iload_n 1, 1) := by decide +kernel
theorem d_MessageCoderModel_symbolAt_53 : decode prog_14_method_73_code 53 = .ok (.invokevirtual 85, 3) := by decide +kernel
theorem d_MessageCoderModel_symbolAt_56 : decode prog_14_method_73_code 56 = .ok (.iconst 3, 1) := by decide +kernel
theorem d_MessageCoderModel_symbolAt_57 : decode prog_14_method_73_code 57 = .ok (.iload_n 2, 1) := by decide +kernel
theorem d_MessageCoderModel_symbolAt_58 : decode prog_14_method_73_code 58 = .ok (.iadd, 1) := by decide +kernel
theorem d_MessageCoderModel_symbolAt_59 : decode prog_14_method_73_code 59 = .ok (.invokevirtual 81, 3) := by decide +kernel
theorem d_MessageCoderModel_symbolAt_62 : decode prog_14_method_73_code 62 = .ok (.iadd, 1) := by decide +kernel
theorem d_MessageCoderModel_symbolAt_63 : decode prog_14_method_73_code 63 = .ok (.i2c, 1) := by decide +kernel
theorem d_MessageCoderModel_symbolAt_64 : decode prog_14_method_73_code 64 = .ok (.goto 4, 3) := by decide +kernel
theorem d_MessageCoderModel_symbolAt_67 : decode prog_14_method_73_code 67 = .ok (.iconst 0, 1) := by decide +kernel
theorem d_MessageCoderModel_symbolAt_68 : decode prog_14_method_73_code 68 = .ok (.ireturn, 1) := by decide +kernel
set_option maxHeartbeats 4000000 in
set_option maxRecDepth 20000 in
theorem c_MessageCoderModel_symbolAt {P : xP} {F : xF} {z : Nat} {m : Nat} {th0 : Nat} {M : mcS} {a : Int32} {i : Int32} (hD : xMD F (m) (th0) (M)) (hI : mInv M) : xM P xy_MessageCoderModel_symbolAt [.ref m, .int a, .int i] F (z) 0 0 (fun r9 F9 z9 => r9 = some (.int (nI (if mOk M.1 a ∧ (0 ≤ i ∧ i < nI (mAt M.1 a).2.2.1) then (mAt M.1 a).2.2.2 i.toNatClampNeg else 0))) ∧ z9 = z ∧ xMD F9 (m) ((if mOk M.1 a then if 0 ≤ i ∧ i < nI (mAt M.1 a).2.2.1 then 0 else 2 else 1)) (M) ∧ (∀ a9 : Nat, (a9 < m ∨ m + 12 ≤ a9) → F9 a9 = F a9)) := by
  refine xM_i .char rfl (Nat.le_of_ble_eq_true rfl) (L0 := [some (.ref m), some (.int a), some (.int i)]) rfl rfl fun Θ hC hret => ?_
  have hag : ∀ a9 : Nat, (a9 < m ∨ m + 12 ≤ a9) → F a9 = F a9 := fun a9 _ => rfl
  obtain ⟨A, S, past, ⟨pn, psg⟩, ⟨lnn, lsg⟩, sv, pp, un, ep, fc⟩ := M
  obtain ⟨rs, er, bm, dm, he, cn, g, l2, v3, r4, w5, b6, d7, b8, ln, ip, cs, o0, ga, h2, h3, h4, h5, h6, h7, h8, h9, hi, hcm, hg, hln, hip⟩ := id hD
  obtain ⟨iA, iP, iS, hu8, hup, hs1, hty, hlz, hic, hlc⟩ := id hI
  have o0 : F (m) = some (.inl (10, [.int (nI (th0)), .ref (m + 1), .int (nI (un)), .int (nI (sv)), .int rs, .ref (m + 2), .ref (m + 3), .ref (m + 4), .ref (m + 5), .ref (m + 6), .int (nI (bm)), .ref (m + 7), .int (nI (dm)), .ref (m + 8), .ref (m + 9), .int (nI (lnn)), .ref (m + 10), .int (nI (pn)), .int (nI (he)), .int er, .int ep, .int fc, .ref (m + 11), .int (nI (cn))])) := o0
  have ga : F (m + 1) = some (.inr (0, 4730, fun b9 => .int (nI (g b9)))) := ga
  have h2 : F (m + 2) = some (.inr (0, 8, fun b9 => .int (nI (l2 b9)))) := h2
  have h3 : F (m + 3) = some (.inr (0, 8, fun b9 => .int (nI (v3 b9)))) := h3
  have h4 : F (m + 4) = some (.inr (0, 8, fun b9 => .int (nI (r4 b9)))) := h4
  have h5 : F (m + 5) = some (.inr (0, 8, fun b9 => .int (nI (w5 b9)))) := h5
  have h6 : F (m + 6) = some (.inr (0, 112, fun b9 => .int (nI (b6 b9)))) := h6
  have h7 : F (m + 7) = some (.inr (0, 16, fun b9 => .int (nI (d7 b9)))) := h7
  have h8 : F (m + 8) = some (.inr (0, 17, fun b9 => .int (nI (b8 b9)))) := h8
  have h9 : F (m + 9) = some (.inr (1, 40, fun b9 => .int (nI (ln b9)))) := h9
  have hi : F (m + 10) = some (.inr (1, 60, fun b9 => .int (nI (ip b9)))) := hi
  have hcm : F (m + 11) = some (.inr (0, 183, fun b9 => .int (nI (cs b9)))) := hcm
  have hln : ∀ j, j < lnn → ln j = lsg j := hln
  have hip : ∀ j, j < pn → ip j = psg j := hip
  have iA : aInv A := iA
  have hu8 : un ≤ 8 := hu8
  have hup : un ≤ pp := hup
  have hs1 : sv ≤ 1 := hs1
  have hty : pn ≤ 60 := hty
  have hlz : lnn ≤ 32 := hlz
  have hr : rRow g A := hg.1
  have hA : aInv A := iA
  obtain ⟨⟨q0, q1, q2, q3, q4, q5, q6, q7, q9⟩, qw, qd, qm, qf, qx, qb⟩ := id hr
  obtain ⟨⟨u1, u2, u3, u4, u5⟩, uw, ud, um, uo, ut, ux, ub, un9⟩ := id hA
  refine x_aload_n hC d_MessageCoderModel_symbolAt_0 rfl rfl ?_
  refine x_aload_n hC d_MessageCoderModel_symbolAt_1 rfl rfl ?_
  refine x_iload_n hC d_MessageCoderModel_symbolAt_2 rfl rfl ?_
  refine x_callV hC kv_MessageCoderModel_142 (c_MessageCoderModel_isThere (o0 := o0) (ga := ga) (hr := hr) (hA := hA)) o0 rfl rfl (by decide) rfl rfl rfl (Nat.le_of_ble_eq_true rfl) (by decide) d_MessageCoderModel_symbolAt_3 (fun r9 F9 z9 hp9 => ?_)
  obtain ⟨rfl, h9b, h9c⟩ := hp9
  rw [h9b, h9c]
  clear h9b h9c F9 z9
  refine x_ifB_ne hC d_MessageCoderModel_symbolAt_6 (tgt := 13) (by decide) (fun c_6 => ?_) (fun c_6 => ?_)
  · skip
    have hpa : mIx A a < A.2.2.1.1 := c_6
    have hla := (um _ hpa).2.2.1
    refine x_iload_n hC d_MessageCoderModel_symbolAt_13 rfl rfl ?_
    refine x_iconst hC d_MessageCoderModel_symbolAt_14 (v := nI 0) (by decide) ?_
    refine x_aload_n hC d_MessageCoderModel_symbolAt_15 rfl rfl ?_
    refine x_aload_n hC d_MessageCoderModel_symbolAt_16 rfl rfl ?_
    refine x_iload_n hC d_MessageCoderModel_symbolAt_17 rfl rfl ?_
    refine x_callV hC kv_MessageCoderModel_85 (c_MessageCoderModel_place (o0 := o0) (ga := ga) (hr := hr) (hA := hA)) o0 rfl rfl (by decide) rfl rfl rfl (Nat.le_of_ble_eq_true rfl) (by decide) d_MessageCoderModel_symbolAt_18 (fun r9 F9 z9 hp9 => ?_)
    obtain ⟨rfl, h9b, h9c⟩ := hp9
    rw [h9b, h9c]
    clear h9b h9c F9 z9
    refine x_top (v := (nI (mIx A a))) (plc_of c_6) ?_
    refine x_iconst hC d_MessageCoderModel_symbolAt_21 (v := nI 2) (by decide) ?_
    refine x_callV hC kv_MessageCoderModel_81 (c_MessageCoderModel_m (o0 := o0) (ga := ga) (hpw := by omega)) o0 rfl rfl (by decide) rfl rfl rfl (Nat.le_of_ble_eq_true rfl) (by decide) d_MessageCoderModel_symbolAt_22 (fun r9 F9 z9 hp9 => ?_)
    obtain ⟨rfl, h9b, h9c⟩ := hp9
    rw [h9b, h9c]
    clear h9b h9c F9 z9
    refine x_top (v := (nI ((A.2.2.1.2.2 (mIx A a)).2.2.1))) (congrArg nI (qm _ hpa).2.2.1) ?_
    refine x_iconst hC d_MessageCoderModel_symbolAt_25 (v := nI 1) (by decide) ?_
    refine x_isub hC d_MessageCoderModel_symbolAt_26 (v := (nI (A.2.2.1.2.2 (mIx A a)).2.2.1 - nI 1)) rfl ?_
    refine x_callS hC ks_MessageCoderModel_64 (c_MessageCoderModel_in ) (by decide) rfl rfl rfl (Nat.le_of_ble_eq_true rfl) (by decide) d_MessageCoderModel_symbolAt_27 (fun r9 F9 z9 hp9 => ?_)
    obtain ⟨rfl, h9b, h9c⟩ := hp9
    rw [h9b, h9c]
    clear h9b h9c F9 z9
    refine x_ifB_ne hC d_MessageCoderModel_symbolAt_30 (tgt := 37) (by decide) (fun c_30 => ?_) (fun c_30 => ?_)
    · skip
      refine x_iconst hC d_MessageCoderModel_symbolAt_37 (v := nI 0) (by decide) ?_
      refine x_putf hC kf_MessageCoderModel_51 o0 (Nat.le_of_ble_eq_true rfl) rfl rfl d_MessageCoderModel_symbolAt_38 (fs1 := [.int (nI 0), .ref (m + 1), .int (nI (un)), .int (nI (sv)), .int rs, .ref (m + 2), .ref (m + 3), .ref (m + 4), .ref (m + 5), .ref (m + 6), .int (nI (bm)), .ref (m + 7), .int (nI (dm)), .ref (m + 8), .ref (m + 9), .int (nI (lnn)), .ref (m + 10), .int (nI (pn)), .int (nI (he)), .int er, .int ep, .int fc, .ref (m + 11), .int (nI (cn))]) rfl ?_
      generalize e1 : xup F (m) (.inl (10, [.int (nI 0), .ref (m + 1), .int (nI (un)), .int (nI (sv)), .int rs, .ref (m + 2), .ref (m + 3), .ref (m + 4), .ref (m + 5), .ref (m + 6), .int (nI (bm)), .ref (m + 7), .int (nI (dm)), .ref (m + 8), .ref (m + 9), .int (nI (lnn)), .ref (m + 10), .int (nI (pn)), .int (nI (he)), .int er, .int ep, .int fc, .ref (m + 11), .int (nI (cn))])) = F1
      have o0 : F1 (m) = some (.inl (10, [.int (nI 0), .ref (m + 1), .int (nI (un)), .int (nI (sv)), .int rs, .ref (m + 2), .ref (m + 3), .ref (m + 4), .ref (m + 5), .ref (m + 6), .int (nI (bm)), .ref (m + 7), .int (nI (dm)), .ref (m + 8), .ref (m + 9), .int (nI (lnn)), .ref (m + 10), .int (nI (pn)), .int (nI (he)), .int er, .int ep, .int fc, .ref (m + 11), .int (nI (cn))])) := by rw [← e1]; exact xup_eq
      have ga : F1 (m + 1) = some (.inr (0, 4730, fun b9 => .int (nI (g b9)))) := by rw [← e1]; exact (xup_ne (by omega)).trans ga
      have h2 : F1 (m + 2) = some (.inr (0, 8, fun b9 => .int (nI (l2 b9)))) := by rw [← e1]; exact (xup_ne (by omega)).trans h2
      have h3 : F1 (m + 3) = some (.inr (0, 8, fun b9 => .int (nI (v3 b9)))) := by rw [← e1]; exact (xup_ne (by omega)).trans h3
      have h4 : F1 (m + 4) = some (.inr (0, 8, fun b9 => .int (nI (r4 b9)))) := by rw [← e1]; exact (xup_ne (by omega)).trans h4
      have h5 : F1 (m + 5) = some (.inr (0, 8, fun b9 => .int (nI (w5 b9)))) := by rw [← e1]; exact (xup_ne (by omega)).trans h5
      have h6 : F1 (m + 6) = some (.inr (0, 112, fun b9 => .int (nI (b6 b9)))) := by rw [← e1]; exact (xup_ne (by omega)).trans h6
      have h7 : F1 (m + 7) = some (.inr (0, 16, fun b9 => .int (nI (d7 b9)))) := by rw [← e1]; exact (xup_ne (by omega)).trans h7
      have h8 : F1 (m + 8) = some (.inr (0, 17, fun b9 => .int (nI (b8 b9)))) := by rw [← e1]; exact (xup_ne (by omega)).trans h8
      have h9 : F1 (m + 9) = some (.inr (1, 40, fun b9 => .int (nI (ln b9)))) := by rw [← e1]; exact (xup_ne (by omega)).trans h9
      have hi : F1 (m + 10) = some (.inr (1, 60, fun b9 => .int (nI (ip b9)))) := by rw [← e1]; exact (xup_ne (by omega)).trans hi
      have hcm : F1 (m + 11) = some (.inr (0, 183, fun b9 => .int (nI (cs b9)))) := by rw [← e1]; exact (xup_ne (by omega)).trans hcm
      have hag : ∀ a9 : Nat, (a9 < m ∨ m + 12 ≤ a9) → F1 a9 = F a9 := fun a9 q0 => by rw [← e1]; exact (xup_ne (by omega)).trans (hag a9 q0)
      refine x_aload_n hC d_MessageCoderModel_symbolAt_41 rfl rfl ?_
      refine x_getf hC kf_MessageCoderModel_51 o0 rfl d_MessageCoderModel_symbolAt_42 ?_
      refine x_ifN_ne hC d_MessageCoderModel_symbolAt_45 (tgt := 67) (by decide) (by omega) (fun c_45 => ?_) (fun c_45 => ?_)
      · skip
        exact absurd c_45 (by omega)
      · skip
        have c9 := (fl_iff (n := (A.2.2.1.2.2 (mIx A a)).2.2.1) (by omega)).mp c_30
        have hie := i2n_of c9.1
        have hi9 : i.toNatClampNeg < (A.2.2.1.2.2 (mIx A a)).2.2.1 := i2n_lt c9.1 c9.2 (by omega)
        have hq9 : g (34 + 19 * mIx A a + (3 + i.toNatClampNeg)) + 97 = (A.2.2.1.2.2 (mIx A a)).2.2.2 i.toNatClampNeg := (qm _ hpa).2.2.2 _ hi9
        obtain ⟨hs7, hs8⟩ : 97 ≤ (A.2.2.1.2.2 (mIx A a)).2.2.2 i.toNatClampNeg ∧ (A.2.2.1.2.2 (mIx A a)).2.2.2 i.toNatClampNeg < 105 := (um _ hpa).2.2.2 _ hi9
        refine x_bipush hC d_MessageCoderModel_symbolAt_48 (v := nI 97) (by decide) ?_
        refine x_aload_n hC d_MessageCoderModel_symbolAt_50 rfl rfl ?_
        refine x_aload_n hC d_MessageCoderModel_symbolAt_51 rfl rfl ?_
        refine x_iload_n hC d_MessageCoderModel_symbolAt_52 rfl rfl ?_
        refine x_callV hC kv_MessageCoderModel_85 (c_MessageCoderModel_place (o0 := o0) (ga := ga) (hr := hr) (hA := hA)) o0 rfl rfl (by decide) rfl rfl rfl (Nat.le_of_ble_eq_true rfl) (by decide) d_MessageCoderModel_symbolAt_53 (fun r9 F9 z9 hp9 => ?_)
        obtain ⟨rfl, h9b, h9c⟩ := hp9
        rw [h9b, h9c]
        clear h9b h9c F9 z9
        refine x_top (v := (nI (mIx A a))) (plc_of c_6) ?_
        refine x_iconst hC d_MessageCoderModel_symbolAt_56 (v := nI 3) (by decide) ?_
        refine x_iload_n hC d_MessageCoderModel_symbolAt_57 rfl rfl ?_
        refine x_top (v := (nI (i.toNatClampNeg))) hie ?_
        refine x_iadd hC d_MessageCoderModel_symbolAt_58 (v := (nI ((3) + (i.toNatClampNeg)))) (x_addN (by omega)) ?_
        refine x_callV hC kv_MessageCoderModel_81 (c_MessageCoderModel_m (o0 := o0) (ga := ga) (hpw := by omega)) o0 rfl rfl (by decide) rfl rfl rfl (Nat.le_of_ble_eq_true rfl) (by decide) d_MessageCoderModel_symbolAt_59 (fun r9 F9 z9 hp9 => ?_)
        obtain ⟨rfl, h9b, h9c⟩ := hp9
        rw [h9b, h9c]
        clear h9b h9c F9 z9
        refine x_iadd hC d_MessageCoderModel_symbolAt_62 (v := (nI ((A.2.2.1.2.2 (mIx A a)).2.2.2 i.toNatClampNeg))) (by rw [nI_add]; exact congrArg nI (by omega)) ?_
        refine x_i2c hC d_MessageCoderModel_symbolAt_63 (v := (nI ((A.2.2.1.2.2 (mIx A a)).2.2.2 i.toNatClampNeg))) (x_i2cN (by omega)) ?_
        refine x_goto hC d_MessageCoderModel_symbolAt_64 (tgt := 68) (by decide) ?_
        refine hret _ _ _ _ _ _ _ d_MessageCoderModel_symbolAt_68 (by decide) (by decide) (x_char _ (by omega)) ?_
        have e2 : (if mOk A a then if 0 ≤ i ∧ i < nI (A.2.2.1.2.2 (mIx A a)).2.2.1 then 0 else 2 else 1) = 0 := (if_pos c_6).trans (if_pos c9)
        exact ⟨congrArg (fun q => some (Value.int (nI q))) ((if_pos ⟨c_6, c9⟩).symm), rfl, (by show xMD _ m (if mOk A a then if 0 ≤ i ∧ i < nI (A.2.2.1.2.2 (mIx A a)).2.2.1 then 0 else 2 else 1) (A, S, past, (pn, psg), (lnn, lsg), sv, pp, un, ep, fc); rw [e2]; exact ⟨_, _, _, _, _, _, _, _, _, _, _, _, _, _, _, _, _, o0, ga, h2, h3, h4, h5, h6, h7, h8, h9, hi, hcm, hg, hln, hip⟩), hag⟩
    · skip
      refine x_iconst hC d_MessageCoderModel_symbolAt_33 (v := nI 2) (by decide) ?_
      refine x_goto hC d_MessageCoderModel_symbolAt_34 (tgt := 38) (by decide) ?_
      refine x_putf hC kf_MessageCoderModel_51 o0 (Nat.le_of_ble_eq_true rfl) rfl rfl d_MessageCoderModel_symbolAt_38 (fs1 := [.int (nI 2), .ref (m + 1), .int (nI (un)), .int (nI (sv)), .int rs, .ref (m + 2), .ref (m + 3), .ref (m + 4), .ref (m + 5), .ref (m + 6), .int (nI (bm)), .ref (m + 7), .int (nI (dm)), .ref (m + 8), .ref (m + 9), .int (nI (lnn)), .ref (m + 10), .int (nI (pn)), .int (nI (he)), .int er, .int ep, .int fc, .ref (m + 11), .int (nI (cn))]) rfl ?_
      generalize e2 : xup F (m) (.inl (10, [.int (nI 2), .ref (m + 1), .int (nI (un)), .int (nI (sv)), .int rs, .ref (m + 2), .ref (m + 3), .ref (m + 4), .ref (m + 5), .ref (m + 6), .int (nI (bm)), .ref (m + 7), .int (nI (dm)), .ref (m + 8), .ref (m + 9), .int (nI (lnn)), .ref (m + 10), .int (nI (pn)), .int (nI (he)), .int er, .int ep, .int fc, .ref (m + 11), .int (nI (cn))])) = F2
      have o0 : F2 (m) = some (.inl (10, [.int (nI 2), .ref (m + 1), .int (nI (un)), .int (nI (sv)), .int rs, .ref (m + 2), .ref (m + 3), .ref (m + 4), .ref (m + 5), .ref (m + 6), .int (nI (bm)), .ref (m + 7), .int (nI (dm)), .ref (m + 8), .ref (m + 9), .int (nI (lnn)), .ref (m + 10), .int (nI (pn)), .int (nI (he)), .int er, .int ep, .int fc, .ref (m + 11), .int (nI (cn))])) := by rw [← e2]; exact xup_eq
      have ga : F2 (m + 1) = some (.inr (0, 4730, fun b9 => .int (nI (g b9)))) := by rw [← e2]; exact (xup_ne (by omega)).trans ga
      have h2 : F2 (m + 2) = some (.inr (0, 8, fun b9 => .int (nI (l2 b9)))) := by rw [← e2]; exact (xup_ne (by omega)).trans h2
      have h3 : F2 (m + 3) = some (.inr (0, 8, fun b9 => .int (nI (v3 b9)))) := by rw [← e2]; exact (xup_ne (by omega)).trans h3
      have h4 : F2 (m + 4) = some (.inr (0, 8, fun b9 => .int (nI (r4 b9)))) := by rw [← e2]; exact (xup_ne (by omega)).trans h4
      have h5 : F2 (m + 5) = some (.inr (0, 8, fun b9 => .int (nI (w5 b9)))) := by rw [← e2]; exact (xup_ne (by omega)).trans h5
      have h6 : F2 (m + 6) = some (.inr (0, 112, fun b9 => .int (nI (b6 b9)))) := by rw [← e2]; exact (xup_ne (by omega)).trans h6
      have h7 : F2 (m + 7) = some (.inr (0, 16, fun b9 => .int (nI (d7 b9)))) := by rw [← e2]; exact (xup_ne (by omega)).trans h7
      have h8 : F2 (m + 8) = some (.inr (0, 17, fun b9 => .int (nI (b8 b9)))) := by rw [← e2]; exact (xup_ne (by omega)).trans h8
      have h9 : F2 (m + 9) = some (.inr (1, 40, fun b9 => .int (nI (ln b9)))) := by rw [← e2]; exact (xup_ne (by omega)).trans h9
      have hi : F2 (m + 10) = some (.inr (1, 60, fun b9 => .int (nI (ip b9)))) := by rw [← e2]; exact (xup_ne (by omega)).trans hi
      have hcm : F2 (m + 11) = some (.inr (0, 183, fun b9 => .int (nI (cs b9)))) := by rw [← e2]; exact (xup_ne (by omega)).trans hcm
      have hag : ∀ a9 : Nat, (a9 < m ∨ m + 12 ≤ a9) → F2 a9 = F a9 := fun a9 q0 => by rw [← e2]; exact (xup_ne (by omega)).trans (hag a9 q0)
      refine x_aload_n hC d_MessageCoderModel_symbolAt_41 rfl rfl ?_
      refine x_getf hC kf_MessageCoderModel_51 o0 rfl d_MessageCoderModel_symbolAt_42 ?_
      refine x_ifN_ne hC d_MessageCoderModel_symbolAt_45 (tgt := 67) (by decide) (by omega) (fun c_45 => ?_) (fun c_45 => ?_)
      · skip
        refine x_iconst hC d_MessageCoderModel_symbolAt_67 (v := nI 0) (by decide) ?_
        refine hret _ _ _ _ _ _ _ d_MessageCoderModel_symbolAt_68 (by decide) (by decide) (x_char _ (by omega)) ?_
        have c9 : ¬ (0 ≤ i ∧ i < nI (A.2.2.1.2.2 (mIx A a)).2.2.1) := fun h9 => c_30 ((fl_iff (by omega)).mpr h9)
        have e2 : (if mOk A a then if 0 ≤ i ∧ i < nI (A.2.2.1.2.2 (mIx A a)).2.2.1 then 0 else 2 else 1) = 2 := (if_pos c_6).trans (if_neg c9)
        exact ⟨congrArg (fun q => some (Value.int (nI q))) ((if_neg (fun h9 => c9 h9.2)).symm), rfl, (by show xMD _ m (if mOk A a then if 0 ≤ i ∧ i < nI (A.2.2.1.2.2 (mIx A a)).2.2.1 then 0 else 2 else 1) (A, S, past, (pn, psg), (lnn, lsg), sv, pp, un, ep, fc); rw [e2]; exact ⟨_, _, _, _, _, _, _, _, _, _, _, _, _, _, _, _, _, o0, ga, h2, h3, h4, h5, h6, h7, h8, h9, hi, hcm, hg, hln, hip⟩), hag⟩
      · skip
        exact absurd c_45 (by omega)
  · skip
    refine x_iconst hC d_MessageCoderModel_symbolAt_9 (v := nI 1) (by decide) ?_
    refine x_goto hC d_MessageCoderModel_symbolAt_10 (tgt := 38) (by decide) ?_
    refine x_putf hC kf_MessageCoderModel_51 o0 (Nat.le_of_ble_eq_true rfl) rfl rfl d_MessageCoderModel_symbolAt_38 (fs1 := [.int (nI 1), .ref (m + 1), .int (nI (un)), .int (nI (sv)), .int rs, .ref (m + 2), .ref (m + 3), .ref (m + 4), .ref (m + 5), .ref (m + 6), .int (nI (bm)), .ref (m + 7), .int (nI (dm)), .ref (m + 8), .ref (m + 9), .int (nI (lnn)), .ref (m + 10), .int (nI (pn)), .int (nI (he)), .int er, .int ep, .int fc, .ref (m + 11), .int (nI (cn))]) rfl ?_
    generalize e3 : xup F (m) (.inl (10, [.int (nI 1), .ref (m + 1), .int (nI (un)), .int (nI (sv)), .int rs, .ref (m + 2), .ref (m + 3), .ref (m + 4), .ref (m + 5), .ref (m + 6), .int (nI (bm)), .ref (m + 7), .int (nI (dm)), .ref (m + 8), .ref (m + 9), .int (nI (lnn)), .ref (m + 10), .int (nI (pn)), .int (nI (he)), .int er, .int ep, .int fc, .ref (m + 11), .int (nI (cn))])) = F3
    have o0 : F3 (m) = some (.inl (10, [.int (nI 1), .ref (m + 1), .int (nI (un)), .int (nI (sv)), .int rs, .ref (m + 2), .ref (m + 3), .ref (m + 4), .ref (m + 5), .ref (m + 6), .int (nI (bm)), .ref (m + 7), .int (nI (dm)), .ref (m + 8), .ref (m + 9), .int (nI (lnn)), .ref (m + 10), .int (nI (pn)), .int (nI (he)), .int er, .int ep, .int fc, .ref (m + 11), .int (nI (cn))])) := by rw [← e3]; exact xup_eq
    have ga : F3 (m + 1) = some (.inr (0, 4730, fun b9 => .int (nI (g b9)))) := by rw [← e3]; exact (xup_ne (by omega)).trans ga
    have h2 : F3 (m + 2) = some (.inr (0, 8, fun b9 => .int (nI (l2 b9)))) := by rw [← e3]; exact (xup_ne (by omega)).trans h2
    have h3 : F3 (m + 3) = some (.inr (0, 8, fun b9 => .int (nI (v3 b9)))) := by rw [← e3]; exact (xup_ne (by omega)).trans h3
    have h4 : F3 (m + 4) = some (.inr (0, 8, fun b9 => .int (nI (r4 b9)))) := by rw [← e3]; exact (xup_ne (by omega)).trans h4
    have h5 : F3 (m + 5) = some (.inr (0, 8, fun b9 => .int (nI (w5 b9)))) := by rw [← e3]; exact (xup_ne (by omega)).trans h5
    have h6 : F3 (m + 6) = some (.inr (0, 112, fun b9 => .int (nI (b6 b9)))) := by rw [← e3]; exact (xup_ne (by omega)).trans h6
    have h7 : F3 (m + 7) = some (.inr (0, 16, fun b9 => .int (nI (d7 b9)))) := by rw [← e3]; exact (xup_ne (by omega)).trans h7
    have h8 : F3 (m + 8) = some (.inr (0, 17, fun b9 => .int (nI (b8 b9)))) := by rw [← e3]; exact (xup_ne (by omega)).trans h8
    have h9 : F3 (m + 9) = some (.inr (1, 40, fun b9 => .int (nI (ln b9)))) := by rw [← e3]; exact (xup_ne (by omega)).trans h9
    have hi : F3 (m + 10) = some (.inr (1, 60, fun b9 => .int (nI (ip b9)))) := by rw [← e3]; exact (xup_ne (by omega)).trans hi
    have hcm : F3 (m + 11) = some (.inr (0, 183, fun b9 => .int (nI (cs b9)))) := by rw [← e3]; exact (xup_ne (by omega)).trans hcm
    have hag : ∀ a9 : Nat, (a9 < m ∨ m + 12 ≤ a9) → F3 a9 = F a9 := fun a9 q0 => by rw [← e3]; exact (xup_ne (by omega)).trans (hag a9 q0)
    refine x_aload_n hC d_MessageCoderModel_symbolAt_41 rfl rfl ?_
    refine x_getf hC kf_MessageCoderModel_51 o0 rfl d_MessageCoderModel_symbolAt_42 ?_
    refine x_ifN_ne hC d_MessageCoderModel_symbolAt_45 (tgt := 67) (by decide) (by omega) (fun c_45 => ?_) (fun c_45 => ?_)
    · skip
      refine x_iconst hC d_MessageCoderModel_symbolAt_67 (v := nI 0) (by decide) ?_
      refine hret _ _ _ _ _ _ _ d_MessageCoderModel_symbolAt_68 (by decide) (by decide) (x_char _ (by omega)) ?_
      have e2 : (if mOk A a then if 0 ≤ i ∧ i < nI (A.2.2.1.2.2 (mIx A a)).2.2.1 then 0 else 2 else 1) = 1 := if_neg c_6
      exact ⟨congrArg (fun q => some (Value.int (nI q))) ((if_neg (fun h9 => c_6 h9.1)).symm), rfl, (by show xMD _ m (if mOk A a then if 0 ≤ i ∧ i < nI (A.2.2.1.2.2 (mIx A a)).2.2.1 then 0 else 2 else 1) (A, S, past, (pn, psg), (lnn, lsg), sv, pp, un, ep, fc); rw [e2]; exact ⟨_, _, _, _, _, _, _, _, _, _, _, _, _, _, _, _, _, o0, ga, h2, h3, h4, h5, h6, h7, h8, h9, hi, hcm, hg, hln, hip⟩), hag⟩
    · skip
      exact absurd c_45 (by omega)

theorem d_MessageCoderModel_countOf_0 : decode prog_14_method_74_code 0 = .ok (.aload_n 0, 1) := by decide +kernel
theorem d_MessageCoderModel_countOf_1 : decode prog_14_method_74_code 1 = .ok (.aload_n 0, 1) := by decide +kernel
theorem d_MessageCoderModel_countOf_2 : decode prog_14_method_74_code 2 = .ok (.iload_n 1, 1) := by decide +kernel
theorem d_MessageCoderModel_countOf_3 : decode prog_14_method_74_code 3 = .ok (.invokevirtual 142, 3) := by decide +kernel
theorem d_MessageCoderModel_countOf_6 : decode prog_14_method_74_code 6 = .ok (.ifCond .ne 7, 3) := by decide +kernel
theorem d_MessageCoderModel_countOf_9 : decode prog_14_method_74_code 9 = .ok (.iconst 1, 1) := by decide +kernel
theorem d_MessageCoderModel_countOf_10 : decode prog_14_method_74_code 10 = .ok (.goto 15, 3) := by decide +kernel
theorem d_MessageCoderModel_countOf_13 : decode prog_14_method_74_code 13 = .ok (.iload_n 2, 1) := by decide +kernel
theorem d_MessageCoderModel_countOf_14 : decode prog_14_method_74_code 14 = .ok (.invokestatic 118, 3) := by decide +kernel
theorem d_MessageCoderModel_countOf_17 : decode prog_14_method_74_code 17 = .ok (.ifCond .ne 7, 3) := by decide +kernel
theorem d_MessageCoderModel_countOf_20 : decode prog_14_method_74_code 20 = .ok (.iconst 2, 1) := by decide +kernel
theorem d_MessageCoderModel_countOf_21 : decode prog_14_method_74_code 21 = .ok (.goto 4, 3) := by decide +kernel
theorem d_MessageCoderModel_countOf_24 : decode prog_14_method_74_code 24 = .ok (.iconst 0, 1) := by decide +kernel
theorem d_MessageCoderModel_countOf_25 : decode prog_14_method_74_code 25 = .ok (.putfield 51, 3) := by decide +kernel
theorem d_MessageCoderModel_countOf_28 : decode prog_14_method_74_code 28 = .ok (.aload_n 0, 1) := by decide +kernel
theorem d_MessageCoderModel_countOf_29 : decode prog_14_method_74_code 29 = .ok (.getfield 51, 3) := by decide +kernel
theorem d_MessageCoderModel_countOf_32 : decode prog_14_method_74_code 32 = .ok (.ifCond .ne 19, 3) := by decide +kernel
theorem d_MessageCoderModel_countOf_35 : decode prog_14_method_74_code 35 = .ok (.aload_n 0, 1) := by decide +kernel
theorem d_MessageCoderModel_countOf_36 : decode prog_14_method_74_code 36 = .ok (.aload_n 0, 1) := by decide +kernel
theorem d_MessageCoderModel_countOf_37 : decode prog_14_method_74_code 37 = .ok (.iload_n 1, 1) := by decide +kernel
theorem d_MessageCoderModel_countOf_38 : decode prog_14_method_74_code 38 = .ok (.invokevirtual 85, 3) := by decide +kernel
theorem d_MessageCoderModel_countOf_41 : decode prog_14_method_74_code 41 = .ok (.iload_n 2, 1) := by decide +kernel
theorem d_MessageCoderModel_countOf_42 : decode prog_14_method_74_code 42 = .ok (.bipush 97, 2) := by decide +kernel
theorem d_MessageCoderModel_countOf_44 : decode prog_14_method_74_code 44 = .ok (.isub, 1) := by decide +kernel
theorem d_MessageCoderModel_countOf_45 : decode prog_14_method_74_code 45 = .ok (.invokevirtual 155, 3) := by decide +kernel
theorem d_MessageCoderModel_countOf_48 : decode prog_14_method_74_code 48 = .ok (.goto 4, 3) := by decide +kernel
theorem d_MessageCoderModel_countOf_51 : decode prog_14_method_74_code 51 = .ok (.iconst 0, 1) := by decide +kernel
theorem d_MessageCoderModel_countOf_52 : decode prog_14_method_74_code 52 = .ok (.ireturn, 1) := by decide +kernel
set_option maxHeartbeats 4000000 in
set_option maxRecDepth 20000 in
theorem c_MessageCoderModel_countOf {P : xP} {F : xF} {z : Nat} {m : Nat} {th0 : Nat} {M : mcS} {a : Int32} {c : Nat} (hD : xMD F (m) (th0) (M)) (hI : mInv M) (hcb : c < 65536) : xM P xy_MessageCoderModel_countOf [.ref m, .int a, .int (nI (c))] F (z) 0 0 (fun r9 F9 z9 => r9 = some (.int (nI (if mOk M.1 a ∧ (97 ≤ c ∧ c < 105) then tmOf (mAt M.1 a).2.2.2 c (mAt M.1 a).2.2.1 else 0))) ∧ z9 = z ∧ xMD F9 (m) ((if mOk M.1 a then if 97 ≤ c ∧ c < 105 then 0 else 2 else 1)) (M) ∧ (∀ a9 : Nat, (a9 < m ∨ m + 12 ≤ a9) → F9 a9 = F a9)) := by
  refine xM_i .int rfl (Nat.le_of_ble_eq_true rfl) (L0 := [some (.ref m), some (.int a), some (.int (nI (c)))]) rfl rfl fun Θ hC hret => ?_
  have hag : ∀ a9 : Nat, (a9 < m ∨ m + 12 ≤ a9) → F a9 = F a9 := fun a9 _ => rfl
  obtain ⟨A, S, past, ⟨pn, psg⟩, ⟨lnn, lsg⟩, sv, pp, un, ep, fc⟩ := M
  obtain ⟨rs, er, bm, dm, he, cn, g, l2, v3, r4, w5, b6, d7, b8, ln, ip, cs, o0, ga, h2, h3, h4, h5, h6, h7, h8, h9, hi, hcm, hg, hln, hip⟩ := id hD
  obtain ⟨iA, iP, iS, hu8, hup, hs1, hty, hlz, hic, hlc⟩ := id hI
  have o0 : F (m) = some (.inl (10, [.int (nI (th0)), .ref (m + 1), .int (nI (un)), .int (nI (sv)), .int rs, .ref (m + 2), .ref (m + 3), .ref (m + 4), .ref (m + 5), .ref (m + 6), .int (nI (bm)), .ref (m + 7), .int (nI (dm)), .ref (m + 8), .ref (m + 9), .int (nI (lnn)), .ref (m + 10), .int (nI (pn)), .int (nI (he)), .int er, .int ep, .int fc, .ref (m + 11), .int (nI (cn))])) := o0
  have ga : F (m + 1) = some (.inr (0, 4730, fun b9 => .int (nI (g b9)))) := ga
  have h2 : F (m + 2) = some (.inr (0, 8, fun b9 => .int (nI (l2 b9)))) := h2
  have h3 : F (m + 3) = some (.inr (0, 8, fun b9 => .int (nI (v3 b9)))) := h3
  have h4 : F (m + 4) = some (.inr (0, 8, fun b9 => .int (nI (r4 b9)))) := h4
  have h5 : F (m + 5) = some (.inr (0, 8, fun b9 => .int (nI (w5 b9)))) := h5
  have h6 : F (m + 6) = some (.inr (0, 112, fun b9 => .int (nI (b6 b9)))) := h6
  have h7 : F (m + 7) = some (.inr (0, 16, fun b9 => .int (nI (d7 b9)))) := h7
  have h8 : F (m + 8) = some (.inr (0, 17, fun b9 => .int (nI (b8 b9)))) := h8
  have h9 : F (m + 9) = some (.inr (1, 40, fun b9 => .int (nI (ln b9)))) := h9
  have hi : F (m + 10) = some (.inr (1, 60, fun b9 => .int (nI (ip b9)))) := hi
  have hcm : F (m + 11) = some (.inr (0, 183, fun b9 => .int (nI (cs b9)))) := hcm
  have hln : ∀ j, j < lnn → ln j = lsg j := hln
  have hip : ∀ j, j < pn → ip j = psg j := hip
  have iA : aInv A := iA
  have hu8 : un ≤ 8 := hu8
  have hup : un ≤ pp := hup
  have hs1 : sv ≤ 1 := hs1
  have hty : pn ≤ 60 := hty
  have hlz : lnn ≤ 32 := hlz
  have hr : rRow g A := hg.1
  have hA : aInv A := iA
  obtain ⟨⟨q0, q1, q2, q3, q4, q5, q6, q7, q9⟩, qw, qd, qm, qf, qx, qb⟩ := id hr
  obtain ⟨⟨u1, u2, u3, u4, u5⟩, uw, ud, um, uo, ut, ux, ub, un9⟩ := id hA
  refine x_aload_n hC d_MessageCoderModel_countOf_0 rfl rfl ?_
  refine x_aload_n hC d_MessageCoderModel_countOf_1 rfl rfl ?_
  refine x_iload_n hC d_MessageCoderModel_countOf_2 rfl rfl ?_
  refine x_callV hC kv_MessageCoderModel_142 (c_MessageCoderModel_isThere (o0 := o0) (ga := ga) (hr := hr) (hA := hA)) o0 rfl rfl (by decide) rfl rfl rfl (Nat.le_of_ble_eq_true rfl) (by decide) d_MessageCoderModel_countOf_3 (fun r9 F9 z9 hp9 => ?_)
  obtain ⟨rfl, h9b, h9c⟩ := hp9
  rw [h9b, h9c]
  clear h9b h9c F9 z9
  refine x_ifB_ne hC d_MessageCoderModel_countOf_6 (tgt := 13) (by decide) (fun c_6 => ?_) (fun c_6 => ?_)
  · skip
    refine x_iload_n hC d_MessageCoderModel_countOf_13 rfl rfl ?_
    refine x_callS hC ks_MessageCoderModel_118 (c_MessageCoderModel_isSymbolN (hcb := hcb)) (by decide) rfl rfl rfl (Nat.le_of_ble_eq_true rfl) (by decide) d_MessageCoderModel_countOf_14 (fun r9 F9 z9 hp9 => ?_)
    obtain ⟨rfl, h9b, h9c⟩ := hp9
    rw [h9b, h9c]
    clear h9b h9c F9 z9
    refine x_ifB_ne hC d_MessageCoderModel_countOf_17 (tgt := 24) (by decide) (fun c_17 => ?_) (fun c_17 => ?_)
    · skip
      refine x_iconst hC d_MessageCoderModel_countOf_24 (v := nI 0) (by decide) ?_
      refine x_putf hC kf_MessageCoderModel_51 o0 (Nat.le_of_ble_eq_true rfl) rfl rfl d_MessageCoderModel_countOf_25 (fs1 := [.int (nI 0), .ref (m + 1), .int (nI (un)), .int (nI (sv)), .int rs, .ref (m + 2), .ref (m + 3), .ref (m + 4), .ref (m + 5), .ref (m + 6), .int (nI (bm)), .ref (m + 7), .int (nI (dm)), .ref (m + 8), .ref (m + 9), .int (nI (lnn)), .ref (m + 10), .int (nI (pn)), .int (nI (he)), .int er, .int ep, .int fc, .ref (m + 11), .int (nI (cn))]) rfl ?_
      generalize e1 : xup F (m) (.inl (10, [.int (nI 0), .ref (m + 1), .int (nI (un)), .int (nI (sv)), .int rs, .ref (m + 2), .ref (m + 3), .ref (m + 4), .ref (m + 5), .ref (m + 6), .int (nI (bm)), .ref (m + 7), .int (nI (dm)), .ref (m + 8), .ref (m + 9), .int (nI (lnn)), .ref (m + 10), .int (nI (pn)), .int (nI (he)), .int er, .int ep, .int fc, .ref (m + 11), .int (nI (cn))])) = F1
      have o0 : F1 (m) = some (.inl (10, [.int (nI 0), .ref (m + 1), .int (nI (un)), .int (nI (sv)), .int rs, .ref (m + 2), .ref (m + 3), .ref (m + 4), .ref (m + 5), .ref (m + 6), .int (nI (bm)), .ref (m + 7), .int (nI (dm)), .ref (m + 8), .ref (m + 9), .int (nI (lnn)), .ref (m + 10), .int (nI (pn)), .int (nI (he)), .int er, .int ep, .int fc, .ref (m + 11), .int (nI (cn))])) := by rw [← e1]; exact xup_eq
      have ga : F1 (m + 1) = some (.inr (0, 4730, fun b9 => .int (nI (g b9)))) := by rw [← e1]; exact (xup_ne (by omega)).trans ga
      have h2 : F1 (m + 2) = some (.inr (0, 8, fun b9 => .int (nI (l2 b9)))) := by rw [← e1]; exact (xup_ne (by omega)).trans h2
      have h3 : F1 (m + 3) = some (.inr (0, 8, fun b9 => .int (nI (v3 b9)))) := by rw [← e1]; exact (xup_ne (by omega)).trans h3
      have h4 : F1 (m + 4) = some (.inr (0, 8, fun b9 => .int (nI (r4 b9)))) := by rw [← e1]; exact (xup_ne (by omega)).trans h4
      have h5 : F1 (m + 5) = some (.inr (0, 8, fun b9 => .int (nI (w5 b9)))) := by rw [← e1]; exact (xup_ne (by omega)).trans h5
      have h6 : F1 (m + 6) = some (.inr (0, 112, fun b9 => .int (nI (b6 b9)))) := by rw [← e1]; exact (xup_ne (by omega)).trans h6
      have h7 : F1 (m + 7) = some (.inr (0, 16, fun b9 => .int (nI (d7 b9)))) := by rw [← e1]; exact (xup_ne (by omega)).trans h7
      have h8 : F1 (m + 8) = some (.inr (0, 17, fun b9 => .int (nI (b8 b9)))) := by rw [← e1]; exact (xup_ne (by omega)).trans h8
      have h9 : F1 (m + 9) = some (.inr (1, 40, fun b9 => .int (nI (ln b9)))) := by rw [← e1]; exact (xup_ne (by omega)).trans h9
      have hi : F1 (m + 10) = some (.inr (1, 60, fun b9 => .int (nI (ip b9)))) := by rw [← e1]; exact (xup_ne (by omega)).trans hi
      have hcm : F1 (m + 11) = some (.inr (0, 183, fun b9 => .int (nI (cs b9)))) := by rw [← e1]; exact (xup_ne (by omega)).trans hcm
      have hag : ∀ a9 : Nat, (a9 < m ∨ m + 12 ≤ a9) → F1 a9 = F a9 := fun a9 q0 => by rw [← e1]; exact (xup_ne (by omega)).trans (hag a9 q0)
      refine x_aload_n hC d_MessageCoderModel_countOf_28 rfl rfl ?_
      refine x_getf hC kf_MessageCoderModel_51 o0 rfl d_MessageCoderModel_countOf_29 ?_
      refine x_ifN_ne hC d_MessageCoderModel_countOf_32 (tgt := 51) (by decide) (by omega) (fun c_32 => ?_) (fun c_32 => ?_)
      · skip
        exact absurd c_32 (by omega)
      · skip
        refine x_aload_n hC d_MessageCoderModel_countOf_35 rfl rfl ?_
        refine x_aload_n hC d_MessageCoderModel_countOf_36 rfl rfl ?_
        refine x_iload_n hC d_MessageCoderModel_countOf_37 rfl rfl ?_
        refine x_callV hC kv_MessageCoderModel_85 (c_MessageCoderModel_place (o0 := o0) (ga := ga) (hr := hr) (hA := hA)) o0 rfl rfl (by decide) rfl rfl rfl (Nat.le_of_ble_eq_true rfl) (by decide) d_MessageCoderModel_countOf_38 (fun r9 F9 z9 hp9 => ?_)
        obtain ⟨rfl, h9b, h9c⟩ := hp9
        rw [h9b, h9c]
        clear h9b h9c F9 z9
        refine x_top (v := (nI (mIx A a))) (plc_of c_6) ?_
        refine x_iload_n hC d_MessageCoderModel_countOf_41 rfl rfl ?_
        refine x_bipush hC d_MessageCoderModel_countOf_42 (v := nI 97) (by decide) ?_
        refine x_isub hC d_MessageCoderModel_countOf_44 (v := (nI ((c) - 97))) (pk_sub (by omega)) ?_
        refine x_callV hC kv_MessageCoderModel_155 (c_MessageCoderModel_counts (o0 := o0) (ga := ga) (hr := hr) (hA := hA) (hp := c_6) (hs := by omega)) o0 rfl rfl (by decide) rfl rfl rfl (Nat.le_of_ble_eq_true rfl) (by decide) d_MessageCoderModel_countOf_45 (fun r9 F9 z9 hp9 => ?_)
        obtain ⟨rfl, h9b, h9c⟩ := hp9
        rw [h9b, h9c]
        clear h9b h9c F9 z9
        refine x_top (v := (nI (tmOf (A.2.2.1.2.2 (mIx A a)).2.2.2 c (A.2.2.1.2.2 (mIx A a)).2.2.1))) (congrArg nI (by rw [show 97 + (c - 97) = c by omega])) ?_
        refine x_goto hC d_MessageCoderModel_countOf_48 (tgt := 52) (by decide) ?_
        refine hret _ _ _ _ _ _ _ d_MessageCoderModel_countOf_52 (by decide) (by decide) rfl ?_
        have e2 : (if mOk A a then if 97 ≤ c ∧ c < 105 then 0 else 2 else 1) = 0 := (if_pos c_6).trans (if_pos c_17)
        exact ⟨congrArg (fun q => some (Value.int (nI q))) ((if_pos ⟨c_6, c_17⟩).symm), rfl, (by show xMD _ m (if mOk A a then if 97 ≤ c ∧ c < 105 then 0 else 2 else 1) (A, S, past, (pn, psg), (lnn, lsg), sv, pp, un, ep, fc); rw [e2]; exact ⟨_, _, _, _, _, _, _, _, _, _, _, _, _, _, _, _, _, o0, ga, h2, h3, h4, h5, h6, h7, h8, h9, hi, hcm, hg, hln, hip⟩), hag⟩
    · skip
      refine x_iconst hC d_MessageCoderModel_countOf_20 (v := nI 2) (by decide) ?_
      refine x_goto hC d_MessageCoderModel_countOf_21 (tgt := 25) (by decide) ?_
      refine x_putf hC kf_MessageCoderModel_51 o0 (Nat.le_of_ble_eq_true rfl) rfl rfl d_MessageCoderModel_countOf_25 (fs1 := [.int (nI 2), .ref (m + 1), .int (nI (un)), .int (nI (sv)), .int rs, .ref (m + 2), .ref (m + 3), .ref (m + 4), .ref (m + 5), .ref (m + 6), .int (nI (bm)), .ref (m + 7), .int (nI (dm)), .ref (m + 8), .ref (m + 9), .int (nI (lnn)), .ref (m + 10), .int (nI (pn)), .int (nI (he)), .int er, .int ep, .int fc, .ref (m + 11), .int (nI (cn))]) rfl ?_
      generalize e2 : xup F (m) (.inl (10, [.int (nI 2), .ref (m + 1), .int (nI (un)), .int (nI (sv)), .int rs, .ref (m + 2), .ref (m + 3), .ref (m + 4), .ref (m + 5), .ref (m + 6), .int (nI (bm)), .ref (m + 7), .int (nI (dm)), .ref (m + 8), .ref (m + 9), .int (nI (lnn)), .ref (m + 10), .int (nI (pn)), .int (nI (he)), .int er, .int ep, .int fc, .ref (m + 11), .int (nI (cn))])) = F2
      have o0 : F2 (m) = some (.inl (10, [.int (nI 2), .ref (m + 1), .int (nI (un)), .int (nI (sv)), .int rs, .ref (m + 2), .ref (m + 3), .ref (m + 4), .ref (m + 5), .ref (m + 6), .int (nI (bm)), .ref (m + 7), .int (nI (dm)), .ref (m + 8), .ref (m + 9), .int (nI (lnn)), .ref (m + 10), .int (nI (pn)), .int (nI (he)), .int er, .int ep, .int fc, .ref (m + 11), .int (nI (cn))])) := by rw [← e2]; exact xup_eq
      have ga : F2 (m + 1) = some (.inr (0, 4730, fun b9 => .int (nI (g b9)))) := by rw [← e2]; exact (xup_ne (by omega)).trans ga
      have h2 : F2 (m + 2) = some (.inr (0, 8, fun b9 => .int (nI (l2 b9)))) := by rw [← e2]; exact (xup_ne (by omega)).trans h2
      have h3 : F2 (m + 3) = some (.inr (0, 8, fun b9 => .int (nI (v3 b9)))) := by rw [← e2]; exact (xup_ne (by omega)).trans h3
      have h4 : F2 (m + 4) = some (.inr (0, 8, fun b9 => .int (nI (r4 b9)))) := by rw [← e2]; exact (xup_ne (by omega)).trans h4
      have h5 : F2 (m + 5) = some (.inr (0, 8, fun b9 => .int (nI (w5 b9)))) := by rw [← e2]; exact (xup_ne (by omega)).trans h5
      have h6 : F2 (m + 6) = some (.inr (0, 112, fun b9 => .int (nI (b6 b9)))) := by rw [← e2]; exact (xup_ne (by omega)).trans h6
      have h7 : F2 (m + 7) = some (.inr (0, 16, fun b9 => .int (nI (d7 b9)))) := by rw [← e2]; exact (xup_ne (by omega)).trans h7
      have h8 : F2 (m + 8) = some (.inr (0, 17, fun b9 => .int (nI (b8 b9)))) := by rw [← e2]; exact (xup_ne (by omega)).trans h8
      have h9 : F2 (m + 9) = some (.inr (1, 40, fun b9 => .int (nI (ln b9)))) := by rw [← e2]; exact (xup_ne (by omega)).trans h9
      have hi : F2 (m + 10) = some (.inr (1, 60, fun b9 => .int (nI (ip b9)))) := by rw [← e2]; exact (xup_ne (by omega)).trans hi
      have hcm : F2 (m + 11) = some (.inr (0, 183, fun b9 => .int (nI (cs b9)))) := by rw [← e2]; exact (xup_ne (by omega)).trans hcm
      have hag : ∀ a9 : Nat, (a9 < m ∨ m + 12 ≤ a9) → F2 a9 = F a9 := fun a9 q0 => by rw [← e2]; exact (xup_ne (by omega)).trans (hag a9 q0)
      refine x_aload_n hC d_MessageCoderModel_countOf_28 rfl rfl ?_
      refine x_getf hC kf_MessageCoderModel_51 o0 rfl d_MessageCoderModel_countOf_29 ?_
      refine x_ifN_ne hC d_MessageCoderModel_countOf_32 (tgt := 51) (by decide) (by omega) (fun c_32 => ?_) (fun c_32 => ?_)
      · skip
        refine x_iconst hC d_MessageCoderModel_countOf_51 (v := nI 0) (by decide) ?_
        refine hret _ _ _ _ _ _ _ d_MessageCoderModel_countOf_52 (by decide) (by decide) rfl ?_
        have e2 : (if mOk A a then if 97 ≤ c ∧ c < 105 then 0 else 2 else 1) = 2 := (if_pos c_6).trans (if_neg c_17)
        exact ⟨congrArg (fun q => some (Value.int (nI q))) ((if_neg (fun h9 => c_17 h9.2)).symm), rfl, (by show xMD _ m (if mOk A a then if 97 ≤ c ∧ c < 105 then 0 else 2 else 1) (A, S, past, (pn, psg), (lnn, lsg), sv, pp, un, ep, fc); rw [e2]; exact ⟨_, _, _, _, _, _, _, _, _, _, _, _, _, _, _, _, _, o0, ga, h2, h3, h4, h5, h6, h7, h8, h9, hi, hcm, hg, hln, hip⟩), hag⟩
      · skip
        exact absurd c_32 (by omega)
  · skip
    refine x_iconst hC d_MessageCoderModel_countOf_9 (v := nI 1) (by decide) ?_
    refine x_goto hC d_MessageCoderModel_countOf_10 (tgt := 25) (by decide) ?_
    refine x_putf hC kf_MessageCoderModel_51 o0 (Nat.le_of_ble_eq_true rfl) rfl rfl d_MessageCoderModel_countOf_25 (fs1 := [.int (nI 1), .ref (m + 1), .int (nI (un)), .int (nI (sv)), .int rs, .ref (m + 2), .ref (m + 3), .ref (m + 4), .ref (m + 5), .ref (m + 6), .int (nI (bm)), .ref (m + 7), .int (nI (dm)), .ref (m + 8), .ref (m + 9), .int (nI (lnn)), .ref (m + 10), .int (nI (pn)), .int (nI (he)), .int er, .int ep, .int fc, .ref (m + 11), .int (nI (cn))]) rfl ?_
    generalize e3 : xup F (m) (.inl (10, [.int (nI 1), .ref (m + 1), .int (nI (un)), .int (nI (sv)), .int rs, .ref (m + 2), .ref (m + 3), .ref (m + 4), .ref (m + 5), .ref (m + 6), .int (nI (bm)), .ref (m + 7), .int (nI (dm)), .ref (m + 8), .ref (m + 9), .int (nI (lnn)), .ref (m + 10), .int (nI (pn)), .int (nI (he)), .int er, .int ep, .int fc, .ref (m + 11), .int (nI (cn))])) = F3
    have o0 : F3 (m) = some (.inl (10, [.int (nI 1), .ref (m + 1), .int (nI (un)), .int (nI (sv)), .int rs, .ref (m + 2), .ref (m + 3), .ref (m + 4), .ref (m + 5), .ref (m + 6), .int (nI (bm)), .ref (m + 7), .int (nI (dm)), .ref (m + 8), .ref (m + 9), .int (nI (lnn)), .ref (m + 10), .int (nI (pn)), .int (nI (he)), .int er, .int ep, .int fc, .ref (m + 11), .int (nI (cn))])) := by rw [← e3]; exact xup_eq
    have ga : F3 (m + 1) = some (.inr (0, 4730, fun b9 => .int (nI (g b9)))) := by rw [← e3]; exact (xup_ne (by omega)).trans ga
    have h2 : F3 (m + 2) = some (.inr (0, 8, fun b9 => .int (nI (l2 b9)))) := by rw [← e3]; exact (xup_ne (by omega)).trans h2
    have h3 : F3 (m + 3) = some (.inr (0, 8, fun b9 => .int (nI (v3 b9)))) := by rw [← e3]; exact (xup_ne (by omega)).trans h3
    have h4 : F3 (m + 4) = some (.inr (0, 8, fun b9 => .int (nI (r4 b9)))) := by rw [← e3]; exact (xup_ne (by omega)).trans h4
    have h5 : F3 (m + 5) = some (.inr (0, 8, fun b9 => .int (nI (w5 b9)))) := by rw [← e3]; exact (xup_ne (by omega)).trans h5
    have h6 : F3 (m + 6) = some (.inr (0, 112, fun b9 => .int (nI (b6 b9)))) := by rw [← e3]; exact (xup_ne (by omega)).trans h6
    have h7 : F3 (m + 7) = some (.inr (0, 16, fun b9 => .int (nI (d7 b9)))) := by rw [← e3]; exact (xup_ne (by omega)).trans h7
    have h8 : F3 (m + 8) = some (.inr (0, 17, fun b9 => .int (nI (b8 b9)))) := by rw [← e3]; exact (xup_ne (by omega)).trans h8
    have h9 : F3 (m + 9) = some (.inr (1, 40, fun b9 => .int (nI (ln b9)))) := by rw [← e3]; exact (xup_ne (by omega)).trans h9
    have hi : F3 (m + 10) = some (.inr (1, 60, fun b9 => .int (nI (ip b9)))) := by rw [← e3]; exact (xup_ne (by omega)).trans hi
    have hcm : F3 (m + 11) = some (.inr (0, 183, fun b9 => .int (nI (cs b9)))) := by rw [← e3]; exact (xup_ne (by omega)).trans hcm
    have hag : ∀ a9 : Nat, (a9 < m ∨ m + 12 ≤ a9) → F3 a9 = F a9 := fun a9 q0 => by rw [← e3]; exact (xup_ne (by omega)).trans (hag a9 q0)
    refine x_aload_n hC d_MessageCoderModel_countOf_28 rfl rfl ?_
    refine x_getf hC kf_MessageCoderModel_51 o0 rfl d_MessageCoderModel_countOf_29 ?_
    refine x_ifN_ne hC d_MessageCoderModel_countOf_32 (tgt := 51) (by decide) (by omega) (fun c_32 => ?_) (fun c_32 => ?_)
    · skip
      refine x_iconst hC d_MessageCoderModel_countOf_51 (v := nI 0) (by decide) ?_
      refine hret _ _ _ _ _ _ _ d_MessageCoderModel_countOf_52 (by decide) (by decide) rfl ?_
      have e2 : (if mOk A a then if 97 ≤ c ∧ c < 105 then 0 else 2 else 1) = 1 := if_neg c_6
      exact ⟨congrArg (fun q => some (Value.int (nI q))) ((if_neg (fun h9 => c_6 h9.1)).symm), rfl, (by show xMD _ m (if mOk A a then if 97 ≤ c ∧ c < 105 then 0 else 2 else 1) (A, S, past, (pn, psg), (lnn, lsg), sv, pp, un, ep, fc); rw [e2]; exact ⟨_, _, _, _, _, _, _, _, _, _, _, _, _, _, _, _, _, o0, ga, h2, h3, h4, h5, h6, h7, h8, h9, hi, hcm, hg, hln, hip⟩), hag⟩
    · skip
      exact absurd c_32 (by omega)

theorem d_MessageCoderModel_bitCount_0 : decode prog_14_method_75_code 0 = .ok (.aload_n 0, 1) := by decide +kernel
theorem d_MessageCoderModel_bitCount_1 : decode prog_14_method_75_code 1 = .ok (.aload_n 0, 1) := by decide +kernel
theorem d_MessageCoderModel_bitCount_2 : decode prog_14_method_75_code 2 = .ok (.iload_n 1, 1) := by decide +kernel
theorem d_MessageCoderModel_bitCount_3 : decode prog_14_method_75_code 3 = .ok (.invokevirtual 142, 3) := by decide +kernel
theorem d_MessageCoderModel_bitCount_6 : decode prog_14_method_75_code 6 = .ok (.invokevirtual 195, 3) := by decide +kernel
theorem d_MessageCoderModel_bitCount_9 : decode prog_14_method_75_code 9 = .ok (.ifCond .ne 5, 3) := by decide +kernel
theorem d_MessageCoderModel_bitCount_12 : decode prog_14_method_75_code 12 = .ok (.iconst 0, 1) := by decide +kernel
theorem d_MessageCoderModel_bitCount_13 : decode prog_14_method_75_code 13 = .ok (.ireturn, 1) := by decide +kernel
theorem d_MessageCoderModel_bitCount_14 : decode prog_14_method_75_code 14 = .ok (.aload_n 0, 1) := by decide +kernel
theorem d_MessageCoderModel_bitCount_15 : decode prog_14_method_75_code 15 = .ok (.aload_n 0, 1) := by decide +kernel
theorem d_MessageCoderModel_bitCount_16 : decode prog_14_method_75_code 16 = .ok (.iload_n 1, 1) := by decide +kernel
theorem d_MessageCoderModel_bitCount_17 : decode prog_14_method_75_code 17 = .ok (.invokevirtual 85, 3) := by decide +kernel
theorem d_MessageCoderModel_bitCount_20 : decode prog_14_method_75_code 20 = .ok (.invokevirtual 170, 3) := by decide +kernel
theorem d_MessageCoderModel_bitCount_23 : decode prog_14_method_75_code 23 = .ok (.aload_n 0, 1) := by decide +kernel
theorem d_MessageCoderModel_bitCount_24 : decode prog_14_method_75_code 24 = .ok (.getfield 94, 3) := by decide +kernel
theorem d_MessageCoderModel_bitCount_27 : decode prog_14_method_75_code 27 = .ok (.ireturn, 1) := by decide +kernel
set_option maxHeartbeats 4000000 in
set_option maxRecDepth 20000 in
theorem c_MessageCoderModel_bitCountR {P : xP} {F : xF} {z : Nat} {m : Nat} {th : Nat} {ch : Nat} {sv : Nat} {rs : Int32} {bm : Nat} {dm : Nat} {lz : Nat} {ty : Nat} {he : Nat} {er : Int32} {ea : Int32} {fa : Int32} {cn : Nat} {g : Nat → Nat} {A : aS} {a : Int32} {l0 : Nat → Nat} {v0 : Nat → Nat} {r0 : Nat → Nat} {w0 : Nat → Nat} {b0 : Nat → Nat} (o0 : F (m) = some (.inl (10, [.int (nI (th)), .ref (m + 1), .int (nI (ch)), .int (nI (sv)), .int rs, .ref (m + 2), .ref (m + 3), .ref (m + 4), .ref (m + 5), .ref (m + 6), .int (nI (bm)), .ref (m + 7), .int (nI (dm)), .ref (m + 8), .ref (m + 9), .int (nI (lz)), .ref (m + 10), .int (nI (ty)), .int (nI (he)), .int er, .int ea, .int fa, .ref (m + 11), .int (nI (cn))]))) (ga : F (m + 1) = some (.inr (0, 4730, fun b9 => .int (nI (g b9))))) (h2 : F (m + 2) = some (.inr (0, 8, fun b9 => .int (nI (l0 b9))))) (h3 : F (m + 3) = some (.inr (0, 8, fun b9 => .int (nI (v0 b9))))) (h4 : F (m + 4) = some (.inr (0, 8, fun b9 => .int (nI (r0 b9))))) (h5 : F (m + 5) = some (.inr (0, 8, fun b9 => .int (nI (w0 b9))))) (h6 : F (m + 6) = some (.inr (0, 112, fun b9 => .int (nI (b0 b9))))) (hr : rRow g A) (hA : aInv A) : xM P xy_MessageCoderModel_bitCount [.ref m, .int a] F (z) 0 0 (fun r9 F9 z9 => ∃ bm1 : Nat, ∃ l1 : Nat → Nat, ∃ v1 : Nat → Nat, ∃ r1 : Nat → Nat, ∃ w1 : Nat → Nat, ∃ b1 : Nat → Nat, r9 = some (.int (nI (if mOk A a then bitsN (hLen A.1) (A.2.2.1.2.2 (mIx A a)).2.2.2 (A.2.2.1.2.2 (mIx A a)).2.2.1 else 0))) ∧ z9 = z ∧ F9 (m) = some (.inl (10, [.int (nI ((if mOk A a then 0 else 1))), .ref (m + 1), .int (nI (ch)), .int (nI (sv)), .int rs, .ref (m + 2), .ref (m + 3), .ref (m + 4), .ref (m + 5), .ref (m + 6), .int (nI (bm1)), .ref (m + 7), .int (nI (dm)), .ref (m + 8), .ref (m + 9), .int (nI (lz)), .ref (m + 10), .int (nI (ty)), .int (nI (he)), .int er, .int ea, .int fa, .ref (m + 11), .int (nI (cn))])) ∧ F9 (m + 1) = some (.inr (0, 4730, fun b9 => .int (nI (g b9)))) ∧ F9 (m + 2) = some (.inr (0, 8, fun b9 => .int (nI (l1 b9)))) ∧ F9 (m + 3) = some (.inr (0, 8, fun b9 => .int (nI (v1 b9)))) ∧ F9 (m + 4) = some (.inr (0, 8, fun b9 => .int (nI (r1 b9)))) ∧ F9 (m + 5) = some (.inr (0, 8, fun b9 => .int (nI (w1 b9)))) ∧ F9 (m + 6) = some (.inr (0, 112, fun b9 => .int (nI (b1 b9)))) ∧ (mOk A a → bm1 = bitsN (hLen A.1) (A.2.2.1.2.2 (mIx A a)).2.2.2 (A.2.2.1.2.2 (mIx A a)).2.2.1 ∧ ∀ j, j < bm1 → b1 j = splB (hLen A.1) (hVal (hLen A.1)) (A.2.2.1.2.2 (mIx A a)).2.2.2 (A.2.2.1.2.2 (mIx A a)).2.2.1 j) ∧ (∀ a9 : Nat, (a9 < m ∨ m + 7 ≤ a9) → F9 a9 = F a9)) := by
  refine xM_i .int rfl (Nat.le_of_ble_eq_true rfl) (L0 := [some (.ref m), some (.int a)]) rfl rfl fun Θ hC hret => ?_
  have hag : ∀ a9 : Nat, (a9 < m ∨ m + 7 ≤ a9) → F a9 = F a9 := fun a9 _ => rfl
  obtain ⟨⟨q0, q1, q2, q3, q4, q5, q6, q7, q9⟩, qw, qd, qm, qf, qx, qb⟩ := id hr
  obtain ⟨⟨u1, u2, u3, u4, u5⟩, uw, ud, um, uo, ut, ux, ub, un9⟩ := id hA
  refine x_aload_n hC d_MessageCoderModel_bitCount_0 rfl rfl ?_
  refine x_aload_n hC d_MessageCoderModel_bitCount_1 rfl rfl ?_
  refine x_iload_n hC d_MessageCoderModel_bitCount_2 rfl rfl ?_
  refine x_callV hC kv_MessageCoderModel_142 (c_MessageCoderModel_isThere (o0 := o0) (ga := ga) (hr := hr) (hA := hA)) o0 rfl rfl (by decide) rfl rfl rfl (Nat.le_of_ble_eq_true rfl) (by decide) d_MessageCoderModel_bitCount_3 (fun r9 F9 z9 hp9 => ?_)
  obtain ⟨rfl, h9b, h9c⟩ := hp9
  rw [h9b, h9c]
  clear h9b h9c F9 z9
  refine x_callV hC kv_MessageCoderModel_195 (c_MessageCoderModel_isFine (o0 := o0)) o0 rfl rfl (by decide) rfl rfl rfl (Nat.le_of_ble_eq_true rfl) (by decide) d_MessageCoderModel_bitCount_6 (fun r9 F9 z9 hp9 => ?_)
  obtain ⟨rfl, h9c, j0, hag9⟩ := hp9
  rw [h9c]
  clear h9c z9
  generalize F9 = F1 at *
  have ga : F1 (m + 1) = some (.inr (0, 4730, fun b9 => .int (nI (g b9)))) := (hag9 _ (by omega)).trans ga
  have h2 : F1 (m + 2) = some (.inr (0, 8, fun b9 => .int (nI (l0 b9)))) := (hag9 _ (by omega)).trans h2
  have h3 : F1 (m + 3) = some (.inr (0, 8, fun b9 => .int (nI (v0 b9)))) := (hag9 _ (by omega)).trans h3
  have h4 : F1 (m + 4) = some (.inr (0, 8, fun b9 => .int (nI (r0 b9)))) := (hag9 _ (by omega)).trans h4
  have h5 : F1 (m + 5) = some (.inr (0, 8, fun b9 => .int (nI (w0 b9)))) := (hag9 _ (by omega)).trans h5
  have h6 : F1 (m + 6) = some (.inr (0, 112, fun b9 => .int (nI (b0 b9)))) := (hag9 _ (by omega)).trans h6
  have o0 : F1 (m) = some (.inl (10, [.int (nI ((if (mOk A a) then 0 else 1))), .ref (m + 1), .int (nI (ch)), .int (nI (sv)), .int rs, .ref (m + 2), .ref (m + 3), .ref (m + 4), .ref (m + 5), .ref (m + 6), .int (nI (bm)), .ref (m + 7), .int (nI (dm)), .ref (m + 8), .ref (m + 9), .int (nI (lz)), .ref (m + 10), .int (nI (ty)), .int (nI (he)), .int er, .int ea, .int fa, .ref (m + 11), .int (nI (cn))])) := j0
  have hag : ∀ a9 : Nat, (a9 < m ∨ m + 7 ≤ a9) → F1 a9 = F a9 := fun a9 q0 => (hag9 a9 (by omega)).trans (hag a9 q0)
  have hg_6 := hag9
  clear hag9
  refine x_ifB_ne hC d_MessageCoderModel_bitCount_9 (tgt := 14) (by decide) (fun c_9 => ?_) (fun c_9 => ?_)
  · skip
    refine x_aload_n hC d_MessageCoderModel_bitCount_14 rfl rfl ?_
    refine x_aload_n hC d_MessageCoderModel_bitCount_15 rfl rfl ?_
    refine x_iload_n hC d_MessageCoderModel_bitCount_16 rfl rfl ?_
    refine x_callV hC kv_MessageCoderModel_85 (c_MessageCoderModel_place (o0 := o0) (ga := ga) (hr := hr) (hA := hA)) o0 rfl rfl (by decide) rfl rfl rfl (Nat.le_of_ble_eq_true rfl) (by decide) d_MessageCoderModel_bitCount_17 (fun r9 F9 z9 hp9 => ?_)
    obtain ⟨rfl, h9b, h9c⟩ := hp9
    rw [h9b, h9c]
    clear h9b h9c F9 z9
    refine x_top (v := (nI (mIx A a))) (plc_of c_9) ?_
    refine x_callV hC kv_MessageCoderModel_170 (c_MessageCoderModel_bitsOf (o0 := o0) (ga := ga) (h2 := h2) (h3 := h3) (h4 := h4) (h5 := h5) (h6 := h6) (hr := hr) (hA := hA) (hp := c_9)) o0 rfl rfl (by decide) rfl rfl rfl (Nat.le_of_ble_eq_true rfl) (by decide) d_MessageCoderModel_bitCount_20 (fun r9 F9 z9 hp9 => ?_)
    obtain ⟨ln1_20, vl1_20, gr1_20, gw1_20, b1_20, rfl, h9c, j0, j1, j2, j3, j4, j5, j6, pk_20, pkb_20, hag9⟩ := hp9
    rw [h9c]
    clear h9c z9
    generalize F9 = F2 at *
    have o0 : F2 (m) = some (.inl (10, [.int (nI ((if (mOk A a) then 0 else 1))), .ref (m + 1), .int (nI (ch)), .int (nI (sv)), .int rs, .ref (m + 2), .ref (m + 3), .ref (m + 4), .ref (m + 5), .ref (m + 6), .int (nI ((bitsN (hLen A.1) (A.2.2.1.2.2 (mIx A a)).2.2.2 (A.2.2.1.2.2 (mIx A a)).2.2.1))), .ref (m + 7), .int (nI (dm)), .ref (m + 8), .ref (m + 9), .int (nI (lz)), .ref (m + 10), .int (nI (ty)), .int (nI (he)), .int er, .int ea, .int fa, .ref (m + 11), .int (nI (cn))])) := j0
    have ga : F2 (m + 1) = some (.inr (0, 4730, fun b9 => .int (nI (g b9)))) := j1
    have h2 : F2 (m + 2) = some (.inr (0, 8, fun b9 => .int (nI (ln1_20 b9)))) := j2
    have h3 : F2 (m + 3) = some (.inr (0, 8, fun b9 => .int (nI (vl1_20 b9)))) := j3
    have h4 : F2 (m + 4) = some (.inr (0, 8, fun b9 => .int (nI (gr1_20 b9)))) := j4
    have h5 : F2 (m + 5) = some (.inr (0, 8, fun b9 => .int (nI (gw1_20 b9)))) := j5
    have h6 : F2 (m + 6) = some (.inr (0, 112, fun b9 => .int (nI (b1_20 b9)))) := j6
    have hag : ∀ a9 : Nat, (a9 < m ∨ m + 7 ≤ a9) → F2 a9 = F a9 := fun a9 q0 => (hag9 a9 (by omega) (by omega)).trans (hag a9 q0)
    have hg_20 := hag9
    clear hag9
    refine x_aload_n hC d_MessageCoderModel_bitCount_23 rfl rfl ?_
    refine x_getf hC kf_MessageCoderModel_94 o0 rfl d_MessageCoderModel_bitCount_24 ?_
    exact hret _ _ _ _ _ _ _ d_MessageCoderModel_bitCount_27 (by decide) (by decide) rfl (⟨_, _, _, _, _, _, congrArg (fun q => some (Value.int (nI q))) ((if_pos c_9).symm), rfl, o0, ga, h2, h3, h4, h5, h6, fun _ => ⟨rfl, pkb_20⟩, hag⟩)
  · skip
    refine x_iconst hC d_MessageCoderModel_bitCount_12 (v := nI 0) (by decide) ?_
    exact hret _ _ _ _ _ _ _ d_MessageCoderModel_bitCount_13 (by decide) (by decide) rfl (⟨bm, l0, v0, r0, w0, b0, congrArg (fun q => some (Value.int (nI q))) ((if_neg c_9).symm), rfl, o0, ga, h2, h3, h4, h5, h6, fun h9 => absurd h9 c_9, hag⟩)

set_option maxHeartbeats 4000000 in
set_option maxRecDepth 20000 in
theorem c_MessageCoderModel_bitCount {P : xP} {F : xF} {z : Nat} {m : Nat} {th0 : Nat} {M : mcS} {a : Int32} (hD : xMD F (m) (th0) (M)) (hI : mInv M) : xM P xy_MessageCoderModel_bitCount [.ref m, .int a] F (z) 0 0 (fun r9 F9 z9 => r9 = some (.int (nI (if mOk M.1 a then bitsN (hLen M.1.1) (mAt M.1 a).2.2.2 (mAt M.1 a).2.2.1 else 0))) ∧ z9 = z ∧ xMD F9 (m) ((if mOk M.1 a then 0 else 1)) (M) ∧ (∀ a9 : Nat, (a9 < m ∨ m + 12 ≤ a9) → F9 a9 = F a9)) := by
  refine xM_i .int rfl (Nat.le_of_ble_eq_true rfl) (L0 := [some (.ref m), some (.int a)]) rfl rfl fun Θ hC hret => ?_
  have hag : ∀ a9 : Nat, (a9 < m ∨ m + 12 ≤ a9) → F a9 = F a9 := fun a9 _ => rfl
  obtain ⟨A, S, past, ⟨pn, psg⟩, ⟨lnn, lsg⟩, sv, pp, un, ep, fc⟩ := M
  obtain ⟨rs, er, bm, dm, he, cn, g, l2, v3, r4, w5, b6, d7, b8, ln, ip, cs, o0, ga, h2, h3, h4, h5, h6, h7, h8, h9, hi, hcm, hg, hln, hip⟩ := id hD
  obtain ⟨iA, iP, iS, hu8, hup, hs1, hty, hlz, hic, hlc⟩ := id hI
  have o0 : F (m) = some (.inl (10, [.int (nI (th0)), .ref (m + 1), .int (nI (un)), .int (nI (sv)), .int rs, .ref (m + 2), .ref (m + 3), .ref (m + 4), .ref (m + 5), .ref (m + 6), .int (nI (bm)), .ref (m + 7), .int (nI (dm)), .ref (m + 8), .ref (m + 9), .int (nI (lnn)), .ref (m + 10), .int (nI (pn)), .int (nI (he)), .int er, .int ep, .int fc, .ref (m + 11), .int (nI (cn))])) := o0
  have ga : F (m + 1) = some (.inr (0, 4730, fun b9 => .int (nI (g b9)))) := ga
  have h2 : F (m + 2) = some (.inr (0, 8, fun b9 => .int (nI (l2 b9)))) := h2
  have h3 : F (m + 3) = some (.inr (0, 8, fun b9 => .int (nI (v3 b9)))) := h3
  have h4 : F (m + 4) = some (.inr (0, 8, fun b9 => .int (nI (r4 b9)))) := h4
  have h5 : F (m + 5) = some (.inr (0, 8, fun b9 => .int (nI (w5 b9)))) := h5
  have h6 : F (m + 6) = some (.inr (0, 112, fun b9 => .int (nI (b6 b9)))) := h6
  have h7 : F (m + 7) = some (.inr (0, 16, fun b9 => .int (nI (d7 b9)))) := h7
  have h8 : F (m + 8) = some (.inr (0, 17, fun b9 => .int (nI (b8 b9)))) := h8
  have h9 : F (m + 9) = some (.inr (1, 40, fun b9 => .int (nI (ln b9)))) := h9
  have hi : F (m + 10) = some (.inr (1, 60, fun b9 => .int (nI (ip b9)))) := hi
  have hcm : F (m + 11) = some (.inr (0, 183, fun b9 => .int (nI (cs b9)))) := hcm
  have hln : ∀ j, j < lnn → ln j = lsg j := hln
  have hip : ∀ j, j < pn → ip j = psg j := hip
  have iA : aInv A := iA
  have hu8 : un ≤ 8 := hu8
  have hup : un ≤ pp := hup
  have hs1 : sv ≤ 1 := hs1
  have hty : pn ≤ 60 := hty
  have hlz : lnn ≤ 32 := hlz
  have hr : rRow g A := hg.1
  have hA : aInv A := iA
  obtain ⟨⟨q0, q1, q2, q3, q4, q5, q6, q7, q9⟩, qw, qd, qm, qf, qx, qb⟩ := id hr
  obtain ⟨⟨u1, u2, u3, u4, u5⟩, uw, ud, um, uo, ut, ux, ub, un9⟩ := id hA
  refine x_aload_n hC d_MessageCoderModel_bitCount_0 rfl rfl ?_
  refine x_aload_n hC d_MessageCoderModel_bitCount_1 rfl rfl ?_
  refine x_iload_n hC d_MessageCoderModel_bitCount_2 rfl rfl ?_
  refine x_callV hC kv_MessageCoderModel_142 (c_MessageCoderModel_isThere (o0 := o0) (ga := ga) (hr := hr) (hA := hA)) o0 rfl rfl (by decide) rfl rfl rfl (Nat.le_of_ble_eq_true rfl) (by decide) d_MessageCoderModel_bitCount_3 (fun r9 F9 z9 hp9 => ?_)
  obtain ⟨rfl, h9b, h9c⟩ := hp9
  rw [h9b, h9c]
  clear h9b h9c F9 z9
  refine x_callV hC kv_MessageCoderModel_195 (c_MessageCoderModel_isFine (o0 := o0)) o0 rfl rfl (by decide) rfl rfl rfl (Nat.le_of_ble_eq_true rfl) (by decide) d_MessageCoderModel_bitCount_6 (fun r9 F9 z9 hp9 => ?_)
  obtain ⟨rfl, h9c, j0, hag9⟩ := hp9
  rw [h9c]
  clear h9c z9
  generalize F9 = F1 at *
  have ga : F1 (m + 1) = some (.inr (0, 4730, fun b9 => .int (nI (g b9)))) := (hag9 _ (by omega)).trans ga
  have h2 : F1 (m + 2) = some (.inr (0, 8, fun b9 => .int (nI (l2 b9)))) := (hag9 _ (by omega)).trans h2
  have h3 : F1 (m + 3) = some (.inr (0, 8, fun b9 => .int (nI (v3 b9)))) := (hag9 _ (by omega)).trans h3
  have h4 : F1 (m + 4) = some (.inr (0, 8, fun b9 => .int (nI (r4 b9)))) := (hag9 _ (by omega)).trans h4
  have h5 : F1 (m + 5) = some (.inr (0, 8, fun b9 => .int (nI (w5 b9)))) := (hag9 _ (by omega)).trans h5
  have h6 : F1 (m + 6) = some (.inr (0, 112, fun b9 => .int (nI (b6 b9)))) := (hag9 _ (by omega)).trans h6
  have h7 : F1 (m + 7) = some (.inr (0, 16, fun b9 => .int (nI (d7 b9)))) := (hag9 _ (by omega)).trans h7
  have h8 : F1 (m + 8) = some (.inr (0, 17, fun b9 => .int (nI (b8 b9)))) := (hag9 _ (by omega)).trans h8
  have h9 : F1 (m + 9) = some (.inr (1, 40, fun b9 => .int (nI (ln b9)))) := (hag9 _ (by omega)).trans h9
  have hi : F1 (m + 10) = some (.inr (1, 60, fun b9 => .int (nI (ip b9)))) := (hag9 _ (by omega)).trans hi
  have hcm : F1 (m + 11) = some (.inr (0, 183, fun b9 => .int (nI (cs b9)))) := (hag9 _ (by omega)).trans hcm
  have o0 : F1 (m) = some (.inl (10, [.int (nI ((if (mOk A a) then 0 else 1))), .ref (m + 1), .int (nI (un)), .int (nI (sv)), .int rs, .ref (m + 2), .ref (m + 3), .ref (m + 4), .ref (m + 5), .ref (m + 6), .int (nI (bm)), .ref (m + 7), .int (nI (dm)), .ref (m + 8), .ref (m + 9), .int (nI (lnn)), .ref (m + 10), .int (nI (pn)), .int (nI (he)), .int er, .int ep, .int fc, .ref (m + 11), .int (nI (cn))])) := j0
  have hag : ∀ a9 : Nat, (a9 < m ∨ m + 12 ≤ a9) → F1 a9 = F a9 := fun a9 q0 => (hag9 a9 (by omega)).trans (hag a9 q0)
  have hg_6 := hag9
  clear hag9
  refine x_ifB_ne hC d_MessageCoderModel_bitCount_9 (tgt := 14) (by decide) (fun c_9 => ?_) (fun c_9 => ?_)
  · skip
    refine x_aload_n hC d_MessageCoderModel_bitCount_14 rfl rfl ?_
    refine x_aload_n hC d_MessageCoderModel_bitCount_15 rfl rfl ?_
    refine x_iload_n hC d_MessageCoderModel_bitCount_16 rfl rfl ?_
    refine x_callV hC kv_MessageCoderModel_85 (c_MessageCoderModel_place (o0 := o0) (ga := ga) (hr := hr) (hA := hA)) o0 rfl rfl (by decide) rfl rfl rfl (Nat.le_of_ble_eq_true rfl) (by decide) d_MessageCoderModel_bitCount_17 (fun r9 F9 z9 hp9 => ?_)
    obtain ⟨rfl, h9b, h9c⟩ := hp9
    rw [h9b, h9c]
    clear h9b h9c F9 z9
    refine x_top (v := (nI (mIx A a))) (plc_of c_9) ?_
    refine x_callV hC kv_MessageCoderModel_170 (c_MessageCoderModel_bitsOf (o0 := o0) (ga := ga) (h2 := h2) (h3 := h3) (h4 := h4) (h5 := h5) (h6 := h6) (hr := hr) (hA := hA) (hp := c_9)) o0 rfl rfl (by decide) rfl rfl rfl (Nat.le_of_ble_eq_true rfl) (by decide) d_MessageCoderModel_bitCount_20 (fun r9 F9 z9 hp9 => ?_)
    obtain ⟨ln1_20, vl1_20, gr1_20, gw1_20, b1_20, rfl, h9c, j0, j1, j2, j3, j4, j5, j6, pk_20, pkb_20, hag9⟩ := hp9
    rw [h9c]
    clear h9c z9
    generalize F9 = F2 at *
    have h7 : F2 (m + 7) = some (.inr (0, 16, fun b9 => .int (nI (d7 b9)))) := (hag9 _ (by omega) (by omega)).trans h7
    have h8 : F2 (m + 8) = some (.inr (0, 17, fun b9 => .int (nI (b8 b9)))) := (hag9 _ (by omega) (by omega)).trans h8
    have h9 : F2 (m + 9) = some (.inr (1, 40, fun b9 => .int (nI (ln b9)))) := (hag9 _ (by omega) (by omega)).trans h9
    have hi : F2 (m + 10) = some (.inr (1, 60, fun b9 => .int (nI (ip b9)))) := (hag9 _ (by omega) (by omega)).trans hi
    have hcm : F2 (m + 11) = some (.inr (0, 183, fun b9 => .int (nI (cs b9)))) := (hag9 _ (by omega) (by omega)).trans hcm
    have o0 : F2 (m) = some (.inl (10, [.int (nI ((if (mOk A a) then 0 else 1))), .ref (m + 1), .int (nI (un)), .int (nI (sv)), .int rs, .ref (m + 2), .ref (m + 3), .ref (m + 4), .ref (m + 5), .ref (m + 6), .int (nI ((bitsN (hLen A.1) (A.2.2.1.2.2 (mIx A a)).2.2.2 (A.2.2.1.2.2 (mIx A a)).2.2.1))), .ref (m + 7), .int (nI (dm)), .ref (m + 8), .ref (m + 9), .int (nI (lnn)), .ref (m + 10), .int (nI (pn)), .int (nI (he)), .int er, .int ep, .int fc, .ref (m + 11), .int (nI (cn))])) := j0
    have ga : F2 (m + 1) = some (.inr (0, 4730, fun b9 => .int (nI (g b9)))) := j1
    have h2 : F2 (m + 2) = some (.inr (0, 8, fun b9 => .int (nI (ln1_20 b9)))) := j2
    have h3 : F2 (m + 3) = some (.inr (0, 8, fun b9 => .int (nI (vl1_20 b9)))) := j3
    have h4 : F2 (m + 4) = some (.inr (0, 8, fun b9 => .int (nI (gr1_20 b9)))) := j4
    have h5 : F2 (m + 5) = some (.inr (0, 8, fun b9 => .int (nI (gw1_20 b9)))) := j5
    have h6 : F2 (m + 6) = some (.inr (0, 112, fun b9 => .int (nI (b1_20 b9)))) := j6
    have hag : ∀ a9 : Nat, (a9 < m ∨ m + 12 ≤ a9) → F2 a9 = F a9 := fun a9 q0 => (hag9 a9 (by omega) (by omega)).trans (hag a9 q0)
    have hg_20 := hag9
    clear hag9
    refine x_aload_n hC d_MessageCoderModel_bitCount_23 rfl rfl ?_
    refine x_getf hC kf_MessageCoderModel_94 o0 rfl d_MessageCoderModel_bitCount_24 ?_
    exact hret _ _ _ _ _ _ _ d_MessageCoderModel_bitCount_27 (by decide) (by decide) rfl (⟨congrArg (fun q => some (Value.int (nI q))) ((if_pos c_9).symm), rfl, ⟨_, _, _, _, _, _, _, _, _, _, _, _, _, _, _, _, _, o0, ga, h2, h3, h4, h5, h6, h7, h8, h9, hi, hcm, hg, hln, hip⟩, hag⟩)
  · skip
    refine x_iconst hC d_MessageCoderModel_bitCount_12 (v := nI 0) (by decide) ?_
    exact hret _ _ _ _ _ _ _ d_MessageCoderModel_bitCount_13 (by decide) (by decide) rfl (⟨congrArg (fun q => some (Value.int (nI q))) ((if_neg c_9).symm), rfl, ⟨_, _, _, _, _, _, _, _, _, _, _, _, _, _, _, _, _, o0, ga, h2, h3, h4, h5, h6, h7, h8, h9, hi, hcm, hg, hln, hip⟩, hag⟩)

theorem d_MessageCoderModel_bitAt_0 : decode prog_14_method_76_code 0 = .ok (.aload_n 0, 1) := by decide +kernel
theorem d_MessageCoderModel_bitAt_1 : decode prog_14_method_76_code 1 = .ok (.iload_n 1, 1) := by decide +kernel
theorem d_MessageCoderModel_bitAt_2 : decode prog_14_method_76_code 2 = .ok (.invokevirtual 208, 3) := by decide +kernel
theorem d_MessageCoderModel_bitAt_5 : decode prog_14_method_76_code 5 = .ok (.istore_n 3, 1) := by decide +kernel
theorem d_MessageCoderModel_bitAt_6 : decode prog_14_method_76_code 6 = .ok (.aload_n 0, 1) := by decide +kernel
theorem d_MessageCoderModel_bitAt_7 : decode prog_14_method_76_code 7 = .ok (.getfield 51, 3) := by decide +kernel
theorem d_MessageCoderModel_bitAt_10 : decode prog_14_method_76_code 10 = .ok (.ifCond .eq 5, 3) := by decide +kernel
theorem d_MessageCoderModel_bitAt_13 : decode prog_14_method_76_code 13 = .ok (.iconst 0, 1) := by decide +kernel
theorem d_MessageCoderModel_bitAt_14 : decode prog_14_method_76_code 14 = .ok (.ireturn, 1) := by decide +kernel
theorem d_MessageCoderModel_bitAt_15 : decode prog_14_method_76_code 15 = .ok (.aload_n 0, 1) := by decide +kernel
theorem d_MessageCoderModel_bitAt_16 : decode prog_14_method_76_code 16 = .ok (.iload_n 2, 1) := by decide +kernel
theorem d_MessageCoderModel_bitAt_17 : decode prog_14_method_76_code 17 = .ok (.iconst 0, 1) := by decide +kernel
theorem d_MessageCoderModel_bitAt_18 : decode prog_14_method_76_code 18 = .ok (.iload_n 3, 1) := by decide +kernel
theorem d_MessageCoderModel_bitAt_19 : decode prog_14_method_76_code 19 = .ok (.iconst 1, 1) := by decide +kernel
theorem d_MessageCoderModel_bitAt_20 : decode prog_14_method_76_code 20 = .ok (.isub, 1) := by decide +kernel
theorem d_MessageCoderModel_bitAt_21 : decode prog_14_method_76_code 21 = .ok (.invokestatic 64, 3) := by decide +kernel
theorem d_MessageCoderModel_bitAt_24 : decode prog_14_method_76_code 24 = .ok (.ifCond .eq 7, 3) := by decide +kernel
theorem d_MessageCoderModel_bitAt_27 : decode prog_14_method_76_code 27 = .ok (.iconst 0, 1) := by decide +kernel
theorem d_MessageCoderModel_bitAt_28 : decode prog_14_method_76_code 28 = .ok (.goto 4, 3) := by decide +kernel
theorem d_MessageCoderModel_bitAt_31 : decode prog_14_method_76_code 31 = .ok (.iconst 2, 1) := by decide +kernel
theorem d_MessageCoderModel_bitAt_32 : decode prog_14_method_76_code 32 = .ok (.putfield 51, 3) := by decide +kernel
theorem d_MessageCoderModel_bitAt_35 : decode prog_14_method_76_code 35 = .ok (.aload_n 0, 1) := by decide +kernel
theorem d_MessageCoderModel_bitAt_36 : decode prog_14_method_76_code 36 = .ok (.getfield 51, 3) := by decide +kernel
theorem d_MessageCoderModel_bitAt_39 : decode prog_14_method_76_code 39 = .ok (.ifCond .ne 12, 3) := by decide +kernel
theorem d_MessageCoderModel_bitAt_42 : decode prog_14_method_76_code 42 = .ok (.aload_n 0, 1) := by decide +kernel
theorem d_MessageCoderModel_bitAt_43 : decode prog_14_method_76_code 43 = .ok (.getfield 25, 3) := by decide +kernel
theorem d_MessageCoderModel_bitAt_46 : decode prog_14_method_76_code 46 = .ok (.iload_n 2, 1) := by decide +kernel
theorem d_MessageCoderModel_bitAt_47 : decode prog_14_method_76_code 47 = .ok (.iaload, 1) := by decide +kernel
theorem d_MessageCoderModel_bitAt_48 : decode prog_14_method_76_code 48 = .ok (.goto 4, 3) := by decide +kernel
theorem d_MessageCoderModel_bitAt_51 : decode prog_14_method_76_code 51 = .ok (.iconst 0, 1) := by decide +kernel
theorem d_MessageCoderModel_bitAt_52 : decode prog_14_method_76_code 52 = .ok (.ireturn, 1) := by decide +kernel
set_option maxHeartbeats 4000000 in
set_option maxRecDepth 20000 in
theorem c_MessageCoderModel_bitAt {P : xP} {F : xF} {z : Nat} {m : Nat} {th0 : Nat} {M : mcS} {a : Int32} {i : Int32} (hD : xMD F (m) (th0) (M)) (hI : mInv M) : xM P xy_MessageCoderModel_bitAt [.ref m, .int a, .int i] F (z) 0 0 (fun r9 F9 z9 => r9 = some (.int (nI (if mOk M.1 a ∧ (0 ≤ i ∧ i < nI (bitsN (hLen M.1.1) (mAt M.1 a).2.2.2 (mAt M.1 a).2.2.1)) then splB (hLen M.1.1) (hVal (hLen M.1.1)) (mAt M.1 a).2.2.2 (mAt M.1 a).2.2.1 i.toNatClampNeg else 0))) ∧ z9 = z ∧ xMD F9 (m) ((if mOk M.1 a then if 0 ≤ i ∧ i < nI (bitsN (hLen M.1.1) (mAt M.1 a).2.2.2 (mAt M.1 a).2.2.1) then 0 else 2 else 1)) (M) ∧ (∀ a9 : Nat, (a9 < m ∨ m + 12 ≤ a9) → F9 a9 = F a9)) := by
  refine xM_i .int rfl (Nat.le_of_ble_eq_true rfl) (L0 := [some (.ref m), some (.int a), some (.int i), none]) rfl rfl fun Θ hC hret => ?_
  have hag : ∀ a9 : Nat, (a9 < m ∨ m + 12 ≤ a9) → F a9 = F a9 := fun a9 _ => rfl
  obtain ⟨A, S, past, ⟨pn, psg⟩, ⟨lnn, lsg⟩, sv, pp, un, ep, fc⟩ := M
  obtain ⟨rs, er, bm, dm, he, cn, g, l2, v3, r4, w5, b6, d7, b8, ln, ip, cs, o0, ga, h2, h3, h4, h5, h6, h7, h8, h9, hi, hcm, hg, hln, hip⟩ := id hD
  obtain ⟨iA, iP, iS, hu8, hup, hs1, hty, hlz, hic, hlc⟩ := id hI
  have o0 : F (m) = some (.inl (10, [.int (nI (th0)), .ref (m + 1), .int (nI (un)), .int (nI (sv)), .int rs, .ref (m + 2), .ref (m + 3), .ref (m + 4), .ref (m + 5), .ref (m + 6), .int (nI (bm)), .ref (m + 7), .int (nI (dm)), .ref (m + 8), .ref (m + 9), .int (nI (lnn)), .ref (m + 10), .int (nI (pn)), .int (nI (he)), .int er, .int ep, .int fc, .ref (m + 11), .int (nI (cn))])) := o0
  have ga : F (m + 1) = some (.inr (0, 4730, fun b9 => .int (nI (g b9)))) := ga
  have h2 : F (m + 2) = some (.inr (0, 8, fun b9 => .int (nI (l2 b9)))) := h2
  have h3 : F (m + 3) = some (.inr (0, 8, fun b9 => .int (nI (v3 b9)))) := h3
  have h4 : F (m + 4) = some (.inr (0, 8, fun b9 => .int (nI (r4 b9)))) := h4
  have h5 : F (m + 5) = some (.inr (0, 8, fun b9 => .int (nI (w5 b9)))) := h5
  have h6 : F (m + 6) = some (.inr (0, 112, fun b9 => .int (nI (b6 b9)))) := h6
  have h7 : F (m + 7) = some (.inr (0, 16, fun b9 => .int (nI (d7 b9)))) := h7
  have h8 : F (m + 8) = some (.inr (0, 17, fun b9 => .int (nI (b8 b9)))) := h8
  have h9 : F (m + 9) = some (.inr (1, 40, fun b9 => .int (nI (ln b9)))) := h9
  have hi : F (m + 10) = some (.inr (1, 60, fun b9 => .int (nI (ip b9)))) := hi
  have hcm : F (m + 11) = some (.inr (0, 183, fun b9 => .int (nI (cs b9)))) := hcm
  have hln : ∀ j, j < lnn → ln j = lsg j := hln
  have hip : ∀ j, j < pn → ip j = psg j := hip
  have iA : aInv A := iA
  have hu8 : un ≤ 8 := hu8
  have hup : un ≤ pp := hup
  have hs1 : sv ≤ 1 := hs1
  have hty : pn ≤ 60 := hty
  have hlz : lnn ≤ 32 := hlz
  have hr : rRow g A := hg.1
  have hA : aInv A := iA
  obtain ⟨⟨q0, q1, q2, q3, q4, q5, q6, q7, q9⟩, qw, qd, qm, qf, qx, qb⟩ := id hr
  obtain ⟨⟨u1, u2, u3, u4, u5⟩, uw, ud, um, uo, ut, ux, ub, un9⟩ := id hA
  refine x_aload_n hC d_MessageCoderModel_bitAt_0 rfl rfl ?_
  refine x_iload_n hC d_MessageCoderModel_bitAt_1 rfl rfl ?_
  refine x_callV hC kv_MessageCoderModel_208 (c_MessageCoderModel_bitCountR (o0 := o0) (ga := ga) (h2 := h2) (h3 := h3) (h4 := h4) (h5 := h5) (h6 := h6) (hr := hr) (hA := hA)) o0 rfl rfl (by decide) rfl rfl rfl (Nat.le_of_ble_eq_true rfl) (by decide) d_MessageCoderModel_bitAt_2 (fun r9 F9 z9 hp9 => ?_)
  obtain ⟨bm1_2, l1_2, v1_2, r1_2, w1_2, b1_2, rfl, h9c, j0, j1, j2, j3, j4, j5, j6, pb_2, hag9⟩ := hp9
  rw [h9c]
  clear h9c z9
  generalize F9 = F1 at *
  have h7 : F1 (m + 7) = some (.inr (0, 16, fun b9 => .int (nI (d7 b9)))) := (hag9 _ (by omega)).trans h7
  have h8 : F1 (m + 8) = some (.inr (0, 17, fun b9 => .int (nI (b8 b9)))) := (hag9 _ (by omega)).trans h8
  have h9 : F1 (m + 9) = some (.inr (1, 40, fun b9 => .int (nI (ln b9)))) := (hag9 _ (by omega)).trans h9
  have hi : F1 (m + 10) = some (.inr (1, 60, fun b9 => .int (nI (ip b9)))) := (hag9 _ (by omega)).trans hi
  have hcm : F1 (m + 11) = some (.inr (0, 183, fun b9 => .int (nI (cs b9)))) := (hag9 _ (by omega)).trans hcm
  have o0 : F1 (m) = some (.inl (10, [.int (nI ((if mOk A a then 0 else 1))), .ref (m + 1), .int (nI (un)), .int (nI (sv)), .int rs, .ref (m + 2), .ref (m + 3), .ref (m + 4), .ref (m + 5), .ref (m + 6), .int (nI (bm1_2)), .ref (m + 7), .int (nI (dm)), .ref (m + 8), .ref (m + 9), .int (nI (lnn)), .ref (m + 10), .int (nI (pn)), .int (nI (he)), .int er, .int ep, .int fc, .ref (m + 11), .int (nI (cn))])) := j0
  have ga : F1 (m + 1) = some (.inr (0, 4730, fun b9 => .int (nI (g b9)))) := j1
  have h2 : F1 (m + 2) = some (.inr (0, 8, fun b9 => .int (nI (l1_2 b9)))) := j2
  have h3 : F1 (m + 3) = some (.inr (0, 8, fun b9 => .int (nI (v1_2 b9)))) := j3
  have h4 : F1 (m + 4) = some (.inr (0, 8, fun b9 => .int (nI (r1_2 b9)))) := j4
  have h5 : F1 (m + 5) = some (.inr (0, 8, fun b9 => .int (nI (w1_2 b9)))) := j5
  have h6 : F1 (m + 6) = some (.inr (0, 112, fun b9 => .int (nI (b1_2 b9)))) := j6
  have hag : ∀ a9 : Nat, (a9 < m ∨ m + 12 ≤ a9) → F1 a9 = F a9 := fun a9 q0 => (hag9 a9 (by omega)).trans (hag a9 q0)
  have hg_2 := hag9
  clear hag9
  refine x_istore_n hC d_MessageCoderModel_bitAt_5 rfl (Nat.le_of_ble_eq_true rfl) (L1 := [some (.ref m), some (.int a), some (.int i), some (.int (nI (if mOk A a then bitsN (hLen A.1) (A.2.2.1.2.2 (mIx A a)).2.2.2 (A.2.2.1.2.2 (mIx A a)).2.2.1 else 0)))]) rfl ?_
  refine x_aload_n hC d_MessageCoderModel_bitAt_6 rfl rfl ?_
  refine x_getf hC kf_MessageCoderModel_51 o0 rfl d_MessageCoderModel_bitAt_7 ?_
  refine x_top (v := (xb (¬ mOk A a))) (by by_cases h9 : mOk A a; (rw [if_pos h9]; exact xb_f0 (fun h => h h9)); (rw [if_neg h9]; exact xb_t1 h9)) ?_
  refine x_ifB_eq hC d_MessageCoderModel_bitAt_10 (tgt := 15) (by decide) (fun c_10 => ?_) (fun c_10 => ?_)
  · skip
    have c_10 : mOk A a := Decidable.not_not.mp c_10
    have hla := (um _ c_10).2.2.1
    have hb112 := bitsN_le (ln := hLen A.1) (fun j hj => hLen_7 A.1 hj) (A.2.2.1.2.2 (mIx A a)).2.2.2 (A.2.2.1.2.2 (mIx A a)).2.2.1
    obtain ⟨hbm1, hbb⟩ := pb_2 c_10
    rw [if_pos c_10]
    refine x_aload_n hC d_MessageCoderModel_bitAt_15 rfl rfl ?_
    refine x_iload_n hC d_MessageCoderModel_bitAt_16 rfl rfl ?_
    refine x_iconst hC d_MessageCoderModel_bitAt_17 (v := nI 0) (by decide) ?_
    refine x_iload_n hC d_MessageCoderModel_bitAt_18 rfl rfl ?_
    refine x_iconst hC d_MessageCoderModel_bitAt_19 (v := nI 1) (by decide) ?_
    refine x_isub hC d_MessageCoderModel_bitAt_20 (v := (nI (bitsN (hLen A.1) (A.2.2.1.2.2 (mIx A a)).2.2.2 (A.2.2.1.2.2 (mIx A a)).2.2.1) - nI 1)) rfl ?_
    refine x_callS hC ks_MessageCoderModel_64 (c_MessageCoderModel_in ) (by decide) rfl rfl rfl (Nat.le_of_ble_eq_true rfl) (by decide) d_MessageCoderModel_bitAt_21 (fun r9 F9 z9 hp9 => ?_)
    obtain ⟨rfl, h9b, h9c⟩ := hp9
    rw [h9b, h9c]
    clear h9b h9c F9 z9
    refine x_ifB_eq hC d_MessageCoderModel_bitAt_24 (tgt := 31) (by decide) (fun c_24 => ?_) (fun c_24 => ?_)
    · skip
      refine x_iconst hC d_MessageCoderModel_bitAt_31 (v := nI 2) (by decide) ?_
      refine x_putf hC kf_MessageCoderModel_51 o0 (Nat.le_of_ble_eq_true rfl) rfl rfl d_MessageCoderModel_bitAt_32 (fs1 := [.int (nI 2), .ref (m + 1), .int (nI (un)), .int (nI (sv)), .int rs, .ref (m + 2), .ref (m + 3), .ref (m + 4), .ref (m + 5), .ref (m + 6), .int (nI (bm1_2)), .ref (m + 7), .int (nI (dm)), .ref (m + 8), .ref (m + 9), .int (nI (lnn)), .ref (m + 10), .int (nI (pn)), .int (nI (he)), .int er, .int ep, .int fc, .ref (m + 11), .int (nI (cn))]) rfl ?_
      generalize e2 : xup F1 (m) (.inl (10, [.int (nI 2), .ref (m + 1), .int (nI (un)), .int (nI (sv)), .int rs, .ref (m + 2), .ref (m + 3), .ref (m + 4), .ref (m + 5), .ref (m + 6), .int (nI (bm1_2)), .ref (m + 7), .int (nI (dm)), .ref (m + 8), .ref (m + 9), .int (nI (lnn)), .ref (m + 10), .int (nI (pn)), .int (nI (he)), .int er, .int ep, .int fc, .ref (m + 11), .int (nI (cn))])) = F2
      have h7 : F2 (m + 7) = some (.inr (0, 16, fun b9 => .int (nI (d7 b9)))) := by rw [← e2]; exact (xup_ne (by omega)).trans h7
      have h8 : F2 (m + 8) = some (.inr (0, 17, fun b9 => .int (nI (b8 b9)))) := by rw [← e2]; exact (xup_ne (by omega)).trans h8
      have h9 : F2 (m + 9) = some (.inr (1, 40, fun b9 => .int (nI (ln b9)))) := by rw [← e2]; exact (xup_ne (by omega)).trans h9
      have hi : F2 (m + 10) = some (.inr (1, 60, fun b9 => .int (nI (ip b9)))) := by rw [← e2]; exact (xup_ne (by omega)).trans hi
      have hcm : F2 (m + 11) = some (.inr (0, 183, fun b9 => .int (nI (cs b9)))) := by rw [← e2]; exact (xup_ne (by omega)).trans hcm
      have o0 : F2 (m) = some (.inl (10, [.int (nI 2), .ref (m + 1), .int (nI (un)), .int (nI (sv)), .int rs, .ref (m + 2), .ref (m + 3), .ref (m + 4), .ref (m + 5), .ref (m + 6), .int (nI (bm1_2)), .ref (m + 7), .int (nI (dm)), .ref (m + 8), .ref (m + 9), .int (nI (lnn)), .ref (m + 10), .int (nI (pn)), .int (nI (he)), .int er, .int ep, .int fc, .ref (m + 11), .int (nI (cn))])) := by rw [← e2]; exact xup_eq
      have ga : F2 (m + 1) = some (.inr (0, 4730, fun b9 => .int (nI (g b9)))) := by rw [← e2]; exact (xup_ne (by omega)).trans ga
      have h2 : F2 (m + 2) = some (.inr (0, 8, fun b9 => .int (nI (l1_2 b9)))) := by rw [← e2]; exact (xup_ne (by omega)).trans h2
      have h3 : F2 (m + 3) = some (.inr (0, 8, fun b9 => .int (nI (v1_2 b9)))) := by rw [← e2]; exact (xup_ne (by omega)).trans h3
      have h4 : F2 (m + 4) = some (.inr (0, 8, fun b9 => .int (nI (r1_2 b9)))) := by rw [← e2]; exact (xup_ne (by omega)).trans h4
      have h5 : F2 (m + 5) = some (.inr (0, 8, fun b9 => .int (nI (w1_2 b9)))) := by rw [← e2]; exact (xup_ne (by omega)).trans h5
      have h6 : F2 (m + 6) = some (.inr (0, 112, fun b9 => .int (nI (b1_2 b9)))) := by rw [← e2]; exact (xup_ne (by omega)).trans h6
      have hag : ∀ a9 : Nat, (a9 < m ∨ m + 12 ≤ a9) → F2 a9 = F a9 := fun a9 q0 => by rw [← e2]; exact (xup_ne (by omega)).trans (hag a9 q0)
      refine x_aload_n hC d_MessageCoderModel_bitAt_35 rfl rfl ?_
      refine x_getf hC kf_MessageCoderModel_51 o0 rfl d_MessageCoderModel_bitAt_36 ?_
      refine x_ifN_ne hC d_MessageCoderModel_bitAt_39 (tgt := 51) (by decide) (by omega) (fun c_39 => ?_) (fun c_39 => ?_)
      · skip
        refine x_iconst hC d_MessageCoderModel_bitAt_51 (v := nI 0) (by decide) ?_
        refine hret _ _ _ _ _ _ _ d_MessageCoderModel_bitAt_52 (by decide) (by decide) rfl ?_
        have c9 : ¬ (0 ≤ i ∧ i < nI (bitsN (hLen A.1) (A.2.2.1.2.2 (mIx A a)).2.2.2 (A.2.2.1.2.2 (mIx A a)).2.2.1)) := fun h9 => c_24 ((fl_iff (by omega)).mpr h9)
        have e2 : (if mOk A a then if 0 ≤ i ∧ i < nI (bitsN (hLen A.1) (A.2.2.1.2.2 (mIx A a)).2.2.2 (A.2.2.1.2.2 (mIx A a)).2.2.1) then 0 else 2 else 1) = 2 := (if_pos c_10).trans (if_neg c9)
        exact ⟨congrArg (fun q => some (Value.int (nI q))) ((if_neg (fun h9 => c9 h9.2)).symm), rfl, (by show xMD _ m (if mOk A a then if 0 ≤ i ∧ i < nI (bitsN (hLen A.1) (A.2.2.1.2.2 (mIx A a)).2.2.2 (A.2.2.1.2.2 (mIx A a)).2.2.1) then 0 else 2 else 1) (A, S, past, (pn, psg), (lnn, lsg), sv, pp, un, ep, fc); rw [e2]; exact ⟨_, _, _, _, _, _, _, _, _, _, _, _, _, _, _, _, _, o0, ga, h2, h3, h4, h5, h6, h7, h8, h9, hi, hcm, hg, hln, hip⟩), hag⟩
      · skip
        exact absurd c_39 (by omega)
    · skip
      refine x_iconst hC d_MessageCoderModel_bitAt_27 (v := nI 0) (by decide) ?_
      refine x_goto hC d_MessageCoderModel_bitAt_28 (tgt := 32) (by decide) ?_
      refine x_putf hC kf_MessageCoderModel_51 o0 (Nat.le_of_ble_eq_true rfl) rfl rfl d_MessageCoderModel_bitAt_32 (fs1 := [.int (nI 0), .ref (m + 1), .int (nI (un)), .int (nI (sv)), .int rs, .ref (m + 2), .ref (m + 3), .ref (m + 4), .ref (m + 5), .ref (m + 6), .int (nI (bm1_2)), .ref (m + 7), .int (nI (dm)), .ref (m + 8), .ref (m + 9), .int (nI (lnn)), .ref (m + 10), .int (nI (pn)), .int (nI (he)), .int er, .int ep, .int fc, .ref (m + 11), .int (nI (cn))]) rfl ?_
      generalize e3 : xup F1 (m) (.inl (10, [.int (nI 0), .ref (m + 1), .int (nI (un)), .int (nI (sv)), .int rs, .ref (m + 2), .ref (m + 3), .ref (m + 4), .ref (m + 5), .ref (m + 6), .int (nI (bm1_2)), .ref (m + 7), .int (nI (dm)), .ref (m + 8), .ref (m + 9), .int (nI (lnn)), .ref (m + 10), .int (nI (pn)), .int (nI (he)), .int er, .int ep, .int fc, .ref (m + 11), .int (nI (cn))])) = F3
      have h7 : F3 (m + 7) = some (.inr (0, 16, fun b9 => .int (nI (d7 b9)))) := by rw [← e3]; exact (xup_ne (by omega)).trans h7
      have h8 : F3 (m + 8) = some (.inr (0, 17, fun b9 => .int (nI (b8 b9)))) := by rw [← e3]; exact (xup_ne (by omega)).trans h8
      have h9 : F3 (m + 9) = some (.inr (1, 40, fun b9 => .int (nI (ln b9)))) := by rw [← e3]; exact (xup_ne (by omega)).trans h9
      have hi : F3 (m + 10) = some (.inr (1, 60, fun b9 => .int (nI (ip b9)))) := by rw [← e3]; exact (xup_ne (by omega)).trans hi
      have hcm : F3 (m + 11) = some (.inr (0, 183, fun b9 => .int (nI (cs b9)))) := by rw [← e3]; exact (xup_ne (by omega)).trans hcm
      have o0 : F3 (m) = some (.inl (10, [.int (nI 0), .ref (m + 1), .int (nI (un)), .int (nI (sv)), .int rs, .ref (m + 2), .ref (m + 3), .ref (m + 4), .ref (m + 5), .ref (m + 6), .int (nI (bm1_2)), .ref (m + 7), .int (nI (dm)), .ref (m + 8), .ref (m + 9), .int (nI (lnn)), .ref (m + 10), .int (nI (pn)), .int (nI (he)), .int er, .int ep, .int fc, .ref (m + 11), .int (nI (cn))])) := by rw [← e3]; exact xup_eq
      have ga : F3 (m + 1) = some (.inr (0, 4730, fun b9 => .int (nI (g b9)))) := by rw [← e3]; exact (xup_ne (by omega)).trans ga
      have h2 : F3 (m + 2) = some (.inr (0, 8, fun b9 => .int (nI (l1_2 b9)))) := by rw [← e3]; exact (xup_ne (by omega)).trans h2
      have h3 : F3 (m + 3) = some (.inr (0, 8, fun b9 => .int (nI (v1_2 b9)))) := by rw [← e3]; exact (xup_ne (by omega)).trans h3
      have h4 : F3 (m + 4) = some (.inr (0, 8, fun b9 => .int (nI (r1_2 b9)))) := by rw [← e3]; exact (xup_ne (by omega)).trans h4
      have h5 : F3 (m + 5) = some (.inr (0, 8, fun b9 => .int (nI (w1_2 b9)))) := by rw [← e3]; exact (xup_ne (by omega)).trans h5
      have h6 : F3 (m + 6) = some (.inr (0, 112, fun b9 => .int (nI (b1_2 b9)))) := by rw [← e3]; exact (xup_ne (by omega)).trans h6
      have hag : ∀ a9 : Nat, (a9 < m ∨ m + 12 ≤ a9) → F3 a9 = F a9 := fun a9 q0 => by rw [← e3]; exact (xup_ne (by omega)).trans (hag a9 q0)
      refine x_aload_n hC d_MessageCoderModel_bitAt_35 rfl rfl ?_
      refine x_getf hC kf_MessageCoderModel_51 o0 rfl d_MessageCoderModel_bitAt_36 ?_
      refine x_ifN_ne hC d_MessageCoderModel_bitAt_39 (tgt := 51) (by decide) (by omega) (fun c_39 => ?_) (fun c_39 => ?_)
      · skip
        exact absurd c_39 (by omega)
      · skip
        have c9 := (fl_iff (n := bitsN (hLen A.1) (A.2.2.1.2.2 (mIx A a)).2.2.2 (A.2.2.1.2.2 (mIx A a)).2.2.1) (by omega)).mp c_24
        have hie := i2n_of c9.1
        have hi9 : i.toNatClampNeg < bitsN (hLen A.1) (A.2.2.1.2.2 (mIx A a)).2.2.2 (A.2.2.1.2.2 (mIx A a)).2.2.1 := i2n_lt c9.1 c9.2 (by omega)
        refine x_aload_n hC d_MessageCoderModel_bitAt_42 rfl rfl ?_
        refine x_getf hC kf_MessageCoderModel_25 o0 rfl d_MessageCoderModel_bitAt_43 ?_
        refine x_iload_n hC d_MessageCoderModel_bitAt_46 rfl rfl ?_
        refine x_iald hC h6 (j := i.toNatClampNeg) ⟨hie, by omega, by omega⟩ (x := nI (splB (hLen A.1) (hVal (hLen A.1)) (A.2.2.1.2.2 (mIx A a)).2.2.2 (A.2.2.1.2.2 (mIx A a)).2.2.1 i.toNatClampNeg)) (congrArg nI (hbb _ (by omega))) d_MessageCoderModel_bitAt_47 ?_
        refine x_goto hC d_MessageCoderModel_bitAt_48 (tgt := 52) (by decide) ?_
        refine hret _ _ _ _ _ _ _ d_MessageCoderModel_bitAt_52 (by decide) (by decide) rfl ?_
        have e2 : (if mOk A a then if 0 ≤ i ∧ i < nI (bitsN (hLen A.1) (A.2.2.1.2.2 (mIx A a)).2.2.2 (A.2.2.1.2.2 (mIx A a)).2.2.1) then 0 else 2 else 1) = 0 := (if_pos c_10).trans (if_pos c9)
        exact ⟨congrArg (fun q => some (Value.int (nI q))) ((if_pos ⟨c_10, c9⟩).symm), rfl, (by show xMD _ m (if mOk A a then if 0 ≤ i ∧ i < nI (bitsN (hLen A.1) (A.2.2.1.2.2 (mIx A a)).2.2.2 (A.2.2.1.2.2 (mIx A a)).2.2.1) then 0 else 2 else 1) (A, S, past, (pn, psg), (lnn, lsg), sv, pp, un, ep, fc); rw [e2]; exact ⟨_, _, _, _, _, _, _, _, _, _, _, _, _, _, _, _, _, o0, ga, h2, h3, h4, h5, h6, h7, h8, h9, hi, hcm, hg, hln, hip⟩), hag⟩
  · skip
    rw [if_neg c_10] at o0
    refine x_iconst hC d_MessageCoderModel_bitAt_13 (v := nI 0) (by decide) ?_
    refine hret _ _ _ _ _ _ _ d_MessageCoderModel_bitAt_14 (by decide) (by decide) rfl ?_
    have e2 : (if mOk A a then if 0 ≤ i ∧ i < nI (bitsN (hLen A.1) (A.2.2.1.2.2 (mIx A a)).2.2.2 (A.2.2.1.2.2 (mIx A a)).2.2.1) then 0 else 2 else 1) = 1 := if_neg c_10
    exact ⟨congrArg (fun q => some (Value.int (nI q))) ((if_neg (fun h9 => c_10 h9.1)).symm), rfl, (by show xMD _ m (if mOk A a then if 0 ≤ i ∧ i < nI (bitsN (hLen A.1) (A.2.2.1.2.2 (mIx A a)).2.2.2 (A.2.2.1.2.2 (mIx A a)).2.2.1) then 0 else 2 else 1) (A, S, past, (pn, psg), (lnn, lsg), sv, pp, un, ep, fc); rw [e2]; exact ⟨_, _, _, _, _, _, _, _, _, _, _, _, _, _, _, _, _, o0, ga, h2, h3, h4, h5, h6, h7, h8, h9, hi, hcm, hg, hln, hip⟩), hag⟩

