/-! the reference as a whole; its public changes -/
def rMD (g : Nat → Nat) (M : mcS) : Prop := rRow g M.1 ∧ (∀ i, i < M.2.2.2.2.2.2.2.1 → rRow (fun q => g (430 * (M.2.2.2.2.2.2.2.1 - i) + q)) (M.2.2.1 ((M.2.2.2.2.2.2.1 - 1 - i) % 9))) ∧ (0 < M.2.2.2.2.2.1 → rRow (fun q => g (3870 + q)) M.2.1)
def mInv (M : mcS) : Prop := aInv M.1 ∧ (∀ i, i < M.2.2.2.2.2.2.2.1 → aInv (M.2.2.1 ((M.2.2.2.2.2.2.1 - 1 - i) % 9))) ∧ (0 < M.2.2.2.2.2.1 → aInv M.2.1) ∧ M.2.2.2.2.2.2.2.1 ≤ 8 ∧ M.2.2.2.2.2.2.2.1 ≤ M.2.2.2.2.2.2.1 ∧ M.2.2.2.2.2.1 ≤ 1 ∧ M.2.2.2.1.1 ≤ 60 ∧ M.2.2.2.2.1.1 ≤ 32 ∧ (∀ j, j < M.2.2.2.1.1 → M.2.2.2.1.2 j < 65536) ∧ (∀ j, j < M.2.2.2.2.1.1 → M.2.2.2.2.1.2 j < 65536)
def xMD (F : xF) (m th : Nat) (M : mcS) : Prop := ∃ (rs er : Int32) (bm dm he cn : Nat) (g l2 v3 r4 w5 b6 d7 b8 ln ip cs : Nat → Nat), F (m) = some (.inl (10, [.int (nI (th)), .ref (m + 1), .int (nI (M.2.2.2.2.2.2.2.1)), .int (nI (M.2.2.2.2.2.1)), .int rs, .ref (m + 2), .ref (m + 3), .ref (m + 4), .ref (m + 5), .ref (m + 6), .int (nI (bm)), .ref (m + 7), .int (nI (dm)), .ref (m + 8), .ref (m + 9), .int (nI (M.2.2.2.2.1.1)), .ref (m + 10), .int (nI (M.2.2.2.1.1)), .int (nI (he)), .int er, .int (M.2.2.2.2.2.2.2.2.1), .int (M.2.2.2.2.2.2.2.2.2), .ref (m + 11), .int (nI (cn))])) ∧ F (m + 1) = some (.inr (0, 4730, fun b9 => .int (nI (g b9)))) ∧ F (m + 2) = some (.inr (0, 8, fun b9 => .int (nI (l2 b9)))) ∧ F (m + 3) = some (.inr (0, 8, fun b9 => .int (nI (v3 b9)))) ∧ F (m + 4) = some (.inr (0, 8, fun b9 => .int (nI (r4 b9)))) ∧ F (m + 5) = some (.inr (0, 8, fun b9 => .int (nI (w5 b9)))) ∧ F (m + 6) = some (.inr (0, 112, fun b9 => .int (nI (b6 b9)))) ∧ F (m + 7) = some (.inr (0, 16, fun b9 => .int (nI (d7 b9)))) ∧ F (m + 8) = some (.inr (0, 17, fun b9 => .int (nI (b8 b9)))) ∧ F (m + 9) = some (.inr (1, 40, fun b9 => .int (nI (ln b9)))) ∧ F (m + 10) = some (.inr (1, 60, fun b9 => .int (nI (ip b9)))) ∧ F (m + 11) = some (.inr (0, 183, fun b9 => .int (nI (cs b9)))) ∧ rMD g M ∧ (∀ j, j < M.2.2.2.2.1.1 → ln j = M.2.2.2.2.1.2 j) ∧ (∀ j, j < M.2.2.2.1.1 → ip j = M.2.2.2.1.2 j)
theorem shG_io (g : Nat → Nat) : ∀ n, n ≤ 7 → (∀ j, 1 ≤ j → j ≤ n → ∀ q, q < 430 → shG g n (430 * j + q) = g (430 * (j + 1) + q)) ∧ ∀ q, q < 430 ∨ 430 * (n + 1) ≤ q → shG g n q = g q
  | 0, _ => ⟨fun j h1 h2 => absurd h2 (by omega), fun _ _ => rfl⟩
  | n + 1, hn => by
    have ih := shG_io g n (by omega)
    refine ⟨fun j h1 h2 q hq => ?_, fun q hq => ?_⟩
    · show cpyR (shG g n) (n + 2) (n + 1) (430 * j + q) = _
      by_cases e : j = n + 1
      · rw [e, cpyR_in hq]
        exact ih.2 _ (by omega)
      · rw [cpyR_out (by omega)]
        exact ih.1 j h1 (by omega) q hq
    · show cpyR (shG g n) (n + 2) (n + 1) q = _
      rw [cpyR_out (by omega)]
      exact ih.2 q (by omega)
theorem endG_io {g : Nat → Nat} {u : Nat} (hu : u ≤ 8) : (∀ q, q < 430 ∨ (3870 ≤ q ∧ q < 4300) → endG g u q = g q) ∧ (∀ q, q < 430 → endG g u (430 * un1 u + q) = g (4300 + q)) ∧ ∀ i, 1 ≤ i → i < un1 u → ∀ q, q < 430 → endG g u (430 * (un1 u - i) + q) = g (430 * (u - (i - 1)) + q) := by
  unfold endG un1
  by_cases e : u = 8
  · subst e
    have h := shG_io g 7 (by omega)
    rw [if_pos rfl, if_pos (by omega)]
    refine ⟨fun q hq => ?_, fun q hq => ?_, fun i h1 h2 q hq => ?_⟩
    · rw [cpyR_out (by omega)]
      exact h.2 q (by omega)
    · rw [cpyR_in hq]
      exact h.2 _ (by omega)
    · rw [cpyR_out (by omega), h.1 (8 - i) (by omega) (by omega) q hq, show 8 - i + 1 = 8 - (i - 1) by omega]
  · rw [if_neg e, if_neg (by omega)]
    refine ⟨fun q hq => cpyR_out (by omega), fun q hq => cpyR_in hq, fun i h1 h2 q hq => ?_⟩
    rw [cpyR_out (by omega), show u + 1 - i = u - (i - 1) by omega]
theorem chg_R {g g1 : Nat → Nat} {M : mcS} {r : Int32 × aS} {t : Nat} (hI : mInv M) (hg : rMD g M) (hA1 : aInv r.2) (kr : rRow g1 r.2) (ko : ∀ q, 430 ≤ q → g1 q = cpyR g 0 10 q) (h : (t = 0 ∧ ¬ r.1 < 0) ∨ (t ≠ 0 ∧ r.1 < 0 ∧ r.2 = M.1)) : rMD (if t = 0 then endG g1 M.2.2.2.2.2.2.2.1 else cpyR g1 10 0) (chgM M r) ∧ (if t = 0 then endC M.2.2.2.2.2.2.2.1 else M.2.2.2.2.2.2.2.1) = chU r.1 M.2.2.2.2.2.2.2.1 := by
  obtain ⟨A, S, past, inp, lin, sv, pp, un, ep, fc⟩ := M
  obtain ⟨iA, iP, iS, hu8, hup, -⟩ := hI
  obtain ⟨hg0, hgp, hgs⟩ := hg
  change aInv A at iA
  change ∀ i, i < un → aInv (past ((pp - 1 - i) % 9)) at iP
  change 0 < sv → aInv S at iS
  change un ≤ 8 at hu8
  change un ≤ pp at hup
  change rRow g A at hg0
  change ∀ i, i < un → rRow (fun q => g (430 * (un - i) + q)) (past ((pp - 1 - i) % 9)) at hgp
  change 0 < sv → rRow (fun q => g (3870 + q)) S at hgs
  change (t = 0 ∧ ¬ r.1 < 0) ∨ (t ≠ 0 ∧ r.1 < 0 ∧ r.2 = A) at h
  have k0 : ∀ q, 430 ≤ q → q < 4300 → g1 q = g q := fun q h1 h2 => (ko q h1).trans (cpyR_out (by omega))
  have k1 : ∀ q, q < 430 → g1 (4300 + q) = g q := fun q hq => (ko _ (by omega)).trans ((cpyR_in (t := 10) (f := 0) hq).trans (congrArg g (by omega)))
  rcases h with ⟨ht, hn⟩ | ⟨ht, hn, he⟩
  · rw [if_pos ht, if_pos ht]
    obtain ⟨m1, m2, m3⟩ := endG_io (g := g1) hu8
    have hcU : chU r.1 un = un1 un := if_neg hn
    have hcP : chP r.1 pp = pp + 1 := if_neg hn
    refine ⟨⟨rRow_ext hA1 (fun q hq => m1 q (by omega)) kr, ?_, fun hs => rRow_ext (iS hs) (fun q hq => ?_) (hgs hs)⟩, ?_⟩
    · show ∀ i, i < chU r.1 un → rRow (fun q => endG g1 un (430 * (chU r.1 un - i) + q)) (updA past (pp % 9) A ((chP r.1 pp - 1 - i) % 9))
      rw [hcU, hcP]
      intro i hi
      have hun1 : un1 un ≤ 8 := by unfold un1; split <;> omega
      have hun2 : un1 un ≤ un + 1 := by unfold un1; split <;> omega
      by_cases e : i = 0
      · subst e
        rw [show (pp + 1 - 1 - 0) % 9 = pp % 9 by omega, updA_eq]
        exact rRow_ext iA (fun q hq => by
          show endG g1 un (430 * (un1 un - 0) + q) = g q
          rw [Nat.sub_zero, m2 q hq, k1 q hq]) hg0
      · rw [show (pp + 1 - 1 - i) % 9 = (pp - 1 - (i - 1)) % 9 by omega, updA_ne (by omega)]
        exact rRow_ext (iP (i - 1) (by omega)) (fun q hq => by
          show endG g1 un (430 * (un1 un - i) + q) = g (430 * (un - (i - 1)) + q)
          rw [m3 i (by omega) hi q hq]
          exact k0 _ (by omega) (by omega)) (hgp (i - 1) (by omega))
    · show endG g1 un (3870 + q) = g (3870 + q)
      rw [m1 _ (by omega)]
      exact k0 _ (by omega) (by omega)
    · show endC un = chU r.1 un
      rw [hcU]
      unfold endC un1
      split <;> split <;> omega
  · rw [if_neg ht, if_neg ht]
    have hcU : chU r.1 un = un := if_pos hn
    have hcP : chP r.1 pp = pp := if_pos hn
    refine ⟨⟨?_, ?_, fun hs => rRow_ext (iS hs) (fun q hq => ?_) (hgs hs)⟩, hcU.symm⟩
    · show rRow (cpyR g1 10 0) r.2
      rw [he]
      exact rRow_ext iA (fun q hq => by
        have h1 := cpyR_in (g := g1) (f := 10) (t := 0) hq
        rw [show 430 * 0 + q = q by omega, show 430 * 10 + q = 4300 + q by omega] at h1
        rw [h1, k1 q hq]) hg0
    · show ∀ i, i < chU r.1 un → rRow (fun q => cpyR g1 10 0 (430 * (chU r.1 un - i) + q)) (updA past (pp % 9) A ((chP r.1 pp - 1 - i) % 9))
      rw [hcU, hcP]
      intro i hi
      rw [updA_ne (by omega)]
      exact rRow_ext (iP i hi) (fun q hq => by
        show cpyR g1 10 0 (430 * (un - i) + q) = g (430 * (un - i) + q)
        rw [cpyR_out (by omega)]
        exact k0 _ (by omega) (by omega)) (hgp i hi)
    · show cpyR g1 10 0 (3870 + q) = g (3870 + q)
      rw [cpyR_out (by omega)]
      exact k0 _ (by omega) (by omega)
theorem inv_chg {M : mcS} {r : Int32 × aS} (hI : mInv M) (hA1 : aInv r.2) : mInv (chgM M r) := by
  obtain ⟨A, S, past, inp, lin, sv, pp, un, ep, fc⟩ := M
  obtain ⟨iA, iP, iS, hu8, hup, rest⟩ := hI
  change aInv A at iA
  change ∀ i, i < un → aInv (past ((pp - 1 - i) % 9)) at iP
  change un ≤ 8 at hu8
  change un ≤ pp at hup
  refine ⟨hA1, ?_, iS, ?_, ?_, rest⟩
  · show ∀ i, i < chU r.1 un → aInv (updA past (pp % 9) A ((chP r.1 pp - 1 - i) % 9))
    intro i hi
    by_cases e : (chP r.1 pp - 1 - i) % 9 = pp % 9
    · rw [e, updA_eq]; exact iA
    · rw [updA_ne e]
      unfold chU at hi
      unfold chP at e ⊢
      by_cases c : r.1 < 0
      · rw [if_pos c] at hi ⊢
        exact iP i hi
      · rw [if_neg c] at hi e ⊢
        have h2 : un1 un ≤ un + 1 := by unfold un1; split <;> omega
        have h3 : i ≠ 0 := fun h => e (by rw [h]; omega)
        rw [show (pp + 1 - 1 - i) % 9 = (pp - 1 - (i - 1)) % 9 by omega]
        exact iP (i - 1) (by omega)
  · show chU r.1 un ≤ 8
    unfold chU un1
    repeat' split
    all_goals omega
  · show chU r.1 un ≤ chP r.1 pp
    unfold chU chP un1
    repeat' split
    all_goals omega
theorem res_Wt (A : aS) (c : Nat) (x : Int32) (hA : aInv A) : ¬ (aWt A c x).1 < 0 ∨ aWt A c x = (-1, A) := by
  unfold aWt
  split
  · rename_i h
    exact Or.inl (nI_pos (by have := hA.2.1 (c - 97) (by omega); omega))
  · exact Or.inr rfl
theorem res_Dr (A : aS) (c : Nat) : ¬ (aDr A c).1 < 0 ∨ aDr A c = (-1, A) ∨ aDr A c = (-2, A) := by
  unfold aDr
  split
  · split
    · exact Or.inl (nI_pos (by omega))
    · exact Or.inr (Or.inr rfl)
  · exact Or.inr (Or.inl rfl)
theorem res_Cl (A : aS) (hA : aInv A) : ¬ (aCl A).1 < 0 := nI_pos (by have := hA.1.1; omega)
theorem res_Po (A : aS) (p : Int32) (hA : aInv A) : ¬ (aPo A p).1 < 0 ∨ aPo A p = (-1, A) ∨ aPo A p = (-2, A) := by
  have := hA.2.2.2.2.2.2.2.2
  unfold aPo
  split
  · split
    · exact Or.inr (Or.inr rfl)
    · exact Or.inl (nI_pos (by omega))
  · exact Or.inr (Or.inl rfl)
theorem res_Di (A : aS) (v : Int32) (hA : aInv A) : ¬ (aDi A v).1 < 0 ∨ aDi A v = (-3, A) := by
  have := hA.1.2.1
  unfold aDi
  split
  · exact Or.inl (nI_pos (by omega))
  · exact Or.inr rfl
theorem res_Hu (A : aS) (v p : Int32) (hA : aInv A) : ¬ (aHu A v p).1 < 0 ∨ aHu A v p = (-1, A) ∨ aHu A v p = (-3, A) := by
  have h8 := hA.1.2.1
  unfold aHu
  split
  · split
    · exact Or.inl (nI_pos (Nat.lt_of_le_of_lt (rkM_le _ _ _) (by omega)))
    · exact Or.inr (Or.inl rfl)
  · exact Or.inr (Or.inr rfl)
theorem res_Le (A : aS) (v : Int32) (hA : aInv A) : ¬ (aLe A v).1 < 0 ∨ aLe A v = (-3, A) := by
  unfold aLe
  split
  · exact Or.inl (nI_pos (Nat.lt_of_le_of_lt (sumN_bd 99 8 (fun j hj => (lrnW_b (hA.2.1 j hj)).2)) (by omega)))
  · exact Or.inr rfl
theorem res_Se (A : aS) (hA : aInv A) : ¬ (aSe A).1 < 0 ∨ aSe A = (-3, A) := by
  unfold aSe
  split
  · rename_i h
    exact Or.inl (nI_pos (by have := nblk_le (w := A.1) (hA.2.2.2.1 _ h).2.2.1; omega))
  · exact Or.inr rfl
theorem res_Fl (A : aS) (i : Int32) (hA : aInv A) : ¬ (aFl A i).1 < 0 ∨ aFl A i = (-4, A) := by
  have h8 := hA.1.2.2.1
  unfold aFl
  split
  · exact Or.inl (nI_pos (Nat.lt_of_le_of_lt (dmgN_le _ _) (by omega)))
  · exact Or.inr rfl
theorem res_Re (A : aS) (hA : aInv A) : ¬ (aRe A).1 < 0 ∨ aRe A = (-3, A) := by
  have h8 := hA.1.2.2.1
  unfold aRe
  split
  · exact Or.inl (nI_pos (Nat.lt_of_le_of_lt (dmgN_le _ _) (by omega)))
  · exact Or.inr rfl
theorem codN_pos {v : Int32} (h : ¬ v < 0) : codN v = 0 := by
  rw [i2n_of (Int32.not_lt.mp h)]
  exact codN_n i2n_31

theorem d_MessageCoderModel_setWeight_0 : decode prog_14_method_30_code 0 = .ok (.aload_n 0, 1) := by decide +kernel
theorem d_MessageCoderModel_setWeight_1 : decode prog_14_method_30_code 1 = .ok (.invokevirtual 122, 3) := by decide +kernel
theorem d_MessageCoderModel_setWeight_4 : decode prog_14_method_30_code 4 = .ok (.aload_n 0, 1) := by decide +kernel
theorem d_MessageCoderModel_setWeight_5 : decode prog_14_method_30_code 5 = .ok (.aload_n 0, 1) := by decide +kernel
theorem d_MessageCoderModel_setWeight_6 : decode prog_14_method_30_code 6 = .ok (.iload_n 1, 1) := by decide +kernel
theorem d_MessageCoderModel_setWeight_7 : decode prog_14_method_30_code 7 = .ok (.iload_n 2, 1) := by decide +kernel
theorem d_MessageCoderModel_setWeight_8 : decode prog_14_method_30_code 8 = .ok (.invokevirtual 125, 3) := by decide +kernel
theorem d_MessageCoderModel_setWeight_11 : decode prog_14_method_30_code 11 = .ok (.iconst 1, 1) := by decide +kernel
theorem d_MessageCoderModel_setWeight_12 : decode prog_14_method_30_code 12 = .ok (.iconst 0, 1) := by decide +kernel
theorem d_MessageCoderModel_setWeight_13 : decode prog_14_method_30_code 13 = .ok (.iconst 0, 1) := by decide +kernel
theorem d_MessageCoderModel_setWeight_14 : decode prog_14_method_30_code 14 = .ok (.iconst 0, 1) := by decide +kernel
theorem d_MessageCoderModel_setWeight_15 : decode prog_14_method_30_code 15 = .ok (.invokevirtual 128, 3) := by decide +kernel
theorem d_MessageCoderModel_setWeight_18 : decode prog_14_method_30_code 18 = .ok (.ireturn, 1) := by decide +kernel
set_option maxHeartbeats 4000000 in
set_option maxRecDepth 20000 in
theorem c_MessageCoderModel_setWeight {P : xP} {F : xF} {z : Nat} {m : Nat} {th0 : Nat} {M : mcS} {c : Nat} {x : Int32} (hD : xMD F (m) (th0) (M)) (hI : mInv M) (hc : c < 65536) : xM P xy_MessageCoderModel_setWeight [.ref m, .int (nI (c)), .int x] F (z) 0 0 (fun r9 F9 z9 => r9 = some (.int (if codN (aWt M.1 c x).1 = 0 then (aWt M.1 c x).1 else nI 0)) ∧ z9 = z ∧ xMD F9 (m) (thC (codN (aWt M.1 c x).1) 1 0 0 0) ((chgM M (aWt M.1 c x))) ∧ (∀ a9 : Nat, (a9 < m ∨ m + 12 ≤ a9) → F9 a9 = F a9)) := by
  refine xM_i .int rfl (Nat.le_of_ble_eq_true rfl) (L0 := [some (.ref m), some (.int (nI (c))), some (.int x)]) rfl rfl fun Θ hC hret => ?_
  have hag : ∀ a9 : Nat, (a9 < m ∨ m + 12 ≤ a9) → F a9 = F a9 := fun a9 _ => rfl
  obtain ⟨A, S, past, ⟨pn, psg⟩, ⟨lnn, lsg⟩, sv, pp, un, ep, fc⟩ := M
  obtain ⟨rs, er, bm, dm, he, cn, g, l2, v3, r4, w5, b6, d7, b8, ln, ip, cs, o0, ga, h2, h3, h4, h5, h6, h7, h8, h9, hi, hcm, hg, hln, hip⟩ := id hD
  obtain ⟨iA, iP, iS, hu8, hup, hs1, hty, hlz, hic, hlc⟩ := id hI
  have o0 : F (m) = some (.inl (10, [.int (nI (th0)), .ref (m + 1), .int (nI (un)), .int (nI (sv)), .int rs, .ref (m + 2), .ref (m + 3), .ref (m + 4), .ref (m + 5), .ref (m + 6), .int (nI (bm)), .ref (m + 7), .int (nI (dm)), .ref (m + 8), .ref (m + 9), .int (nI (lnn)), .ref (m + 10), .int (nI (pn)), .int (nI (he)), .int er, .int ep, .int fc, .ref (m + 11), .int (nI (cn))])) := o0
  have ga : F (m + 1) = some (.inr (0, 4730, fun b9 => .int (nI (g b9)))) := ga
  have h2 : F (m + 2) = some (.inr (0, 8, fun b9 => .int (nI (l2 b9)))) := h2
  have h3 : F (m + 3) = some (.inr (0, 8, fun b9 => .int (nI (v3 b9)))) := h3
  have h4 : F (m + 4) = some (.inr (0, 8, fun b9 => .int (nI (r4 b9)))) := h4
  have h5 : F (m + 5) = some (.inr (0, 8, fun b9 => .int (nI (w5 b9)))) := h5
  have h6 : F (m + 6) = some (.inr (0, 112, fun b9 => .int (nI (b6 b9)))) := h6
  have h7 : F (m + 7) = some (.inr (0, 16, fun b9 => .int (nI (d7 b9)))) := h7
  have h8 : F (m + 8) = some (.inr (0, 17, fun b9 => .int (nI (b8 b9)))) := h8
  have h9 : F (m + 9) = some (.inr (1, 40, fun b9 => .int (nI (ln b9)))) := h9
  have hi : F (m + 10) = some (.inr (1, 60, fun b9 => .int (nI (ip b9)))) := hi
  have hcm : F (m + 11) = some (.inr (0, 183, fun b9 => .int (nI (cs b9)))) := hcm
  have hln : ∀ j, j < lnn → ln j = lsg j := hln
  have hip : ∀ j, j < pn → ip j = psg j := hip
  have iA : aInv A := iA
  have hu8 : un ≤ 8 := hu8
  have hup : un ≤ pp := hup
  have hs1 : sv ≤ 1 := hs1
  have hty : pn ≤ 60 := hty
  have hlz : lnn ≤ 32 := hlz
  have hr : rRow g A := hg.1
  refine x_aload_n hC d_MessageCoderModel_setWeight_0 rfl rfl ?_
  refine x_callV hC kv_MessageCoderModel_122 (c_MessageCoderModel_begins (o0 := o0) (ga := ga)) o0 rfl rfl (by decide) rfl rfl rfl (Nat.le_of_ble_eq_true rfl) (by decide) d_MessageCoderModel_setWeight_1 (fun r9 F9 z9 hp9 => ?_)
  obtain ⟨rfl, h9c, j0, j1, hag9⟩ := hp9
  rw [h9c]
  clear h9c z9
  generalize F9 = F1 at *
  have h2 : F1 (m + 2) = some (.inr (0, 8, fun b9 => .int (nI (l2 b9)))) := (hag9 _ (by omega)).trans h2
  have h3 : F1 (m + 3) = some (.inr (0, 8, fun b9 => .int (nI (v3 b9)))) := (hag9 _ (by omega)).trans h3
  have h4 : F1 (m + 4) = some (.inr (0, 8, fun b9 => .int (nI (r4 b9)))) := (hag9 _ (by omega)).trans h4
  have h5 : F1 (m + 5) = some (.inr (0, 8, fun b9 => .int (nI (w5 b9)))) := (hag9 _ (by omega)).trans h5
  have h6 : F1 (m + 6) = some (.inr (0, 112, fun b9 => .int (nI (b6 b9)))) := (hag9 _ (by omega)).trans h6
  have h7 : F1 (m + 7) = some (.inr (0, 16, fun b9 => .int (nI (d7 b9)))) := (hag9 _ (by omega)).trans h7
  have h8 : F1 (m + 8) = some (.inr (0, 17, fun b9 => .int (nI (b8 b9)))) := (hag9 _ (by omega)).trans h8
  have h9 : F1 (m + 9) = some (.inr (1, 40, fun b9 => .int (nI (ln b9)))) := (hag9 _ (by omega)).trans h9
  have hi : F1 (m + 10) = some (.inr (1, 60, fun b9 => .int (nI (ip b9)))) := (hag9 _ (by omega)).trans hi
  have hcm : F1 (m + 11) = some (.inr (0, 183, fun b9 => .int (nI (cs b9)))) := (hag9 _ (by omega)).trans hcm
  have o0 : F1 (m) = some (.inl (10, [.int (nI (th0)), .ref (m + 1), .int (nI (un)), .int (nI (sv)), .int rs, .ref (m + 2), .ref (m + 3), .ref (m + 4), .ref (m + 5), .ref (m + 6), .int (nI (bm)), .ref (m + 7), .int (nI (dm)), .ref (m + 8), .ref (m + 9), .int (nI (lnn)), .ref (m + 10), .int (nI (pn)), .int (nI (he)), .int er, .int ep, .int fc, .ref (m + 11), .int (nI (cn))])) := j0
  have ga : F1 (m + 1) = some (.inr (0, 4730, fun b9 => .int (nI ((cpyR g 0 10) b9)))) := j1
  have hag : ∀ a9 : Nat, (a9 < m ∨ m + 12 ≤ a9) → F1 a9 = F a9 := fun a9 q0 => (hag9 a9 (by omega)).trans (hag a9 q0)
  have hg_1 := hag9
  clear hag9
  refine x_aload_n hC d_MessageCoderModel_setWeight_4 rfl rfl ?_
  refine x_aload_n hC d_MessageCoderModel_setWeight_5 rfl rfl ?_
  refine x_iload_n hC d_MessageCoderModel_setWeight_6 rfl rfl ?_
  refine x_iload_n hC d_MessageCoderModel_setWeight_7 rfl rfl ?_
  have hr1 : rRow (cpyR g 0 10) A := rRow_ext iA (fun q hq => cpyR_out (by omega)) hr
  refine x_callV hC kv_MessageCoderModel_125 (c_MessageCoderModel_weighs (o0 := o0) (ga := ga) (hr := hr1) (hA := iA) (hc := hc) (A := A)) o0 rfl rfl (by decide) rfl rfl rfl (Nat.le_of_ble_eq_true rfl) (by decide) d_MessageCoderModel_setWeight_8 (fun r9 F9 z9 hp9 => ?_)
  obtain ⟨g1, rs1, rfl, h9c, j0, j1, pr_8, po_8, pv_8, hag9⟩ := hp9
  rw [h9c]
  clear h9c z9
  generalize F9 = F2 at *
  have h2 : F2 (m + 2) = some (.inr (0, 8, fun b9 => .int (nI (l2 b9)))) := (hag9 _ (by omega)).trans h2
  have h3 : F2 (m + 3) = some (.inr (0, 8, fun b9 => .int (nI (v3 b9)))) := (hag9 _ (by omega)).trans h3
  have h4 : F2 (m + 4) = some (.inr (0, 8, fun b9 => .int (nI (r4 b9)))) := (hag9 _ (by omega)).trans h4
  have h5 : F2 (m + 5) = some (.inr (0, 8, fun b9 => .int (nI (w5 b9)))) := (hag9 _ (by omega)).trans h5
  have h6 : F2 (m + 6) = some (.inr (0, 112, fun b9 => .int (nI (b6 b9)))) := (hag9 _ (by omega)).trans h6
  have h7 : F2 (m + 7) = some (.inr (0, 16, fun b9 => .int (nI (d7 b9)))) := (hag9 _ (by omega)).trans h7
  have h8 : F2 (m + 8) = some (.inr (0, 17, fun b9 => .int (nI (b8 b9)))) := (hag9 _ (by omega)).trans h8
  have h9 : F2 (m + 9) = some (.inr (1, 40, fun b9 => .int (nI (ln b9)))) := (hag9 _ (by omega)).trans h9
  have hi : F2 (m + 10) = some (.inr (1, 60, fun b9 => .int (nI (ip b9)))) := (hag9 _ (by omega)).trans hi
  have hcm : F2 (m + 11) = some (.inr (0, 183, fun b9 => .int (nI (cs b9)))) := (hag9 _ (by omega)).trans hcm
  have o0 : F2 (m) = some (.inl (10, [.int (nI (th0)), .ref (m + 1), .int (nI (un)), .int (nI (sv)), .int rs1, .ref (m + 2), .ref (m + 3), .ref (m + 4), .ref (m + 5), .ref (m + 6), .int (nI (bm)), .ref (m + 7), .int (nI (dm)), .ref (m + 8), .ref (m + 9), .int (nI (lnn)), .ref (m + 10), .int (nI (pn)), .int (nI (he)), .int er, .int ep, .int fc, .ref (m + 11), .int (nI (cn))])) := j0
  have ga : F2 (m + 1) = some (.inr (0, 4730, fun b9 => .int (nI (g1 b9)))) := j1
  have hag : ∀ a9 : Nat, (a9 < m ∨ m + 12 ≤ a9) → F2 a9 = F a9 := fun a9 q0 => (hag9 a9 (by omega)).trans (hag a9 q0)
  have hg_8 := hag9
  clear hag9
  refine x_iconst hC d_MessageCoderModel_setWeight_11 (v := nI 1) (by decide) ?_
  refine x_iconst hC d_MessageCoderModel_setWeight_12 (v := nI 0) (by decide) ?_
  refine x_iconst hC d_MessageCoderModel_setWeight_13 (v := nI 0) (by decide) ?_
  refine x_iconst hC d_MessageCoderModel_setWeight_14 (v := nI 0) (by decide) ?_
  refine x_callV hC kv_MessageCoderModel_128 (c_MessageCoderModel_ends (o0 := o0) (ga := ga) (hy := codN_4 _) (h1 := by omega) (h2 := by omega) (h3 := by omega) (h4 := by omega) (hch := by omega)) o0 rfl rfl (by decide) rfl rfl rfl (Nat.le_of_ble_eq_true rfl) (by decide) d_MessageCoderModel_setWeight_15 (fun r9 F9 z9 hp9 => ?_)
  obtain ⟨rfl, h9c, j0, j1, hag9⟩ := hp9
  rw [h9c]
  clear h9c z9
  generalize F9 = F3 at *
  have h2 : F3 (m + 2) = some (.inr (0, 8, fun b9 => .int (nI (l2 b9)))) := (hag9 _ (by omega)).trans h2
  have h3 : F3 (m + 3) = some (.inr (0, 8, fun b9 => .int (nI (v3 b9)))) := (hag9 _ (by omega)).trans h3
  have h4 : F3 (m + 4) = some (.inr (0, 8, fun b9 => .int (nI (r4 b9)))) := (hag9 _ (by omega)).trans h4
  have h5 : F3 (m + 5) = some (.inr (0, 8, fun b9 => .int (nI (w5 b9)))) := (hag9 _ (by omega)).trans h5
  have h6 : F3 (m + 6) = some (.inr (0, 112, fun b9 => .int (nI (b6 b9)))) := (hag9 _ (by omega)).trans h6
  have h7 : F3 (m + 7) = some (.inr (0, 16, fun b9 => .int (nI (d7 b9)))) := (hag9 _ (by omega)).trans h7
  have h8 : F3 (m + 8) = some (.inr (0, 17, fun b9 => .int (nI (b8 b9)))) := (hag9 _ (by omega)).trans h8
  have h9 : F3 (m + 9) = some (.inr (1, 40, fun b9 => .int (nI (ln b9)))) := (hag9 _ (by omega)).trans h9
  have hi : F3 (m + 10) = some (.inr (1, 60, fun b9 => .int (nI (ip b9)))) := (hag9 _ (by omega)).trans hi
  have hcm : F3 (m + 11) = some (.inr (0, 183, fun b9 => .int (nI (cs b9)))) := (hag9 _ (by omega)).trans hcm
  have o0 : F3 (m) = some (.inl (10, [.int (nI ((thC (codN (aWt A c x).1) 1 0 0 0))), .ref (m + 1), .int (nI ((if thC (codN (aWt A c x).1) 1 0 0 0 = 0 then endC un else un))), .int (nI (sv)), .int rs1, .ref (m + 2), .ref (m + 3), .ref (m + 4), .ref (m + 5), .ref (m + 6), .int (nI (bm)), .ref (m + 7), .int (nI (dm)), .ref (m + 8), .ref (m + 9), .int (nI (lnn)), .ref (m + 10), .int (nI (pn)), .int (nI (he)), .int er, .int ep, .int fc, .ref (m + 11), .int (nI (cn))])) := j0
  have ga : F3 (m + 1) = some (.inr (0, 4730, fun b9 => .int (nI ((if thC (codN (aWt A c x).1) 1 0 0 0 = 0 then endG g1 un else cpyR g1 10 0) b9)))) := j1
  have hag : ∀ a9 : Nat, (a9 < m ∨ m + 12 ≤ a9) → F3 a9 = F a9 := fun a9 q0 => (hag9 a9 (by omega)).trans (hag a9 q0)
  have hg_15 := hag9
  clear hag9
  refine hret _ _ _ _ _ _ _ d_MessageCoderModel_setWeight_18 (by decide) (by decide) rfl ?_
  have hX9 : (codN (aWt A c x).1 = 0 ∧ ¬ (aWt A c x).1 < 0 ∧ thC (codN (aWt A c x).1) 1 0 0 0 = 0) ∨ (codN (aWt A c x).1 ≠ 0 ∧ (aWt A c x).1 < 0 ∧ (aWt A c x).2 = A ∧ thC (codN (aWt A c x).1) 1 0 0 0 ≠ 0) := by
    rcases res_Wt A c x iA with e9 | e9
    · exact Or.inl ⟨codN_pos e9, e9, by rw [codN_pos e9]; rfl⟩
    · exact Or.inr ⟨by rw [e9]; show ¬ codN (-1) = 0; decide, by rw [e9]; show (-1 : Int32) < 0; decide, by rw [e9], by rw [e9]; show ¬ thC (codN (-1)) 1 0 0 0 = 0; decide⟩
  have hX8 : (thC (codN (aWt A c x).1) 1 0 0 0 = 0 ∧ ¬ (aWt A c x).1 < 0) ∨ (thC (codN (aWt A c x).1) 1 0 0 0 ≠ 0 ∧ (aWt A c x).1 < 0 ∧ (aWt A c x).2 = A) := hX9.elim (fun h => Or.inl ⟨h.2.2, h.2.1⟩) (fun h => Or.inr ⟨h.2.2.2, h.2.1, h.2.2.1⟩)
  obtain ⟨hR, hU⟩ := chg_R hI hg (inv_Wt iA c x) pr_8 po_8 hX8
  have hR : rMD (if thC (codN (aWt A c x).1) 1 0 0 0 = 0 then endG g1 un else cpyR g1 10 0) (chgM (A, S, past, (pn, psg), (lnn, lsg), sv, pp, un, ep, fc) (aWt A c x)) := hR
  have hU : (if thC (codN (aWt A c x).1) 1 0 0 0 = 0 then endC un else un) = chU (aWt A c x).1 un := hU
  have hV : (if thC (codN (aWt A c x).1) 1 0 0 0 = 0 then rs1 else nI 0) = (if codN (aWt A c x).1 = 0 then (aWt A c x).1 else nI 0) := by
    rcases hX9 with h | h
    · rw [if_pos h.2.2, if_pos h.1]; exact pv_8 h.1
    · rw [if_neg h.2.2.2, if_neg h.1]
  rw [hU] at o0
  exact ⟨congrArg (fun q => some (Value.int q)) hV, rfl, ⟨_, _, _, _, _, _, _, _, _, _, _, _, _, _, _, _, _, o0, ga, h2, h3, h4, h5, h6, h7, h8, h9, hi, hcm, hR, hln, hip⟩, hag⟩

theorem d_MessageCoderModel_addSymbol_0 : decode prog_14_method_32_code 0 = .ok (.aload_n 0, 1) := by decide +kernel
theorem d_MessageCoderModel_addSymbol_1 : decode prog_14_method_32_code 1 = .ok (.invokevirtual 122, 3) := by decide +kernel
theorem d_MessageCoderModel_addSymbol_4 : decode prog_14_method_32_code 4 = .ok (.aload_n 0, 1) := by decide +kernel
theorem d_MessageCoderModel_addSymbol_5 : decode prog_14_method_32_code 5 = .ok (.aload_n 0, 1) := by decide +kernel
theorem d_MessageCoderModel_addSymbol_6 : decode prog_14_method_32_code 6 = .ok (.iload_n 1, 1) := by decide +kernel
theorem d_MessageCoderModel_addSymbol_7 : decode prog_14_method_32_code 7 = .ok (.invokevirtual 132, 3) := by decide +kernel
theorem d_MessageCoderModel_addSymbol_10 : decode prog_14_method_32_code 10 = .ok (.iconst 1, 1) := by decide +kernel
theorem d_MessageCoderModel_addSymbol_11 : decode prog_14_method_32_code 11 = .ok (.iconst 2, 1) := by decide +kernel
theorem d_MessageCoderModel_addSymbol_12 : decode prog_14_method_32_code 12 = .ok (.iconst 0, 1) := by decide +kernel
theorem d_MessageCoderModel_addSymbol_13 : decode prog_14_method_32_code 13 = .ok (.iconst 0, 1) := by decide +kernel
theorem d_MessageCoderModel_addSymbol_14 : decode prog_14_method_32_code 14 = .ok (.invokevirtual 128, 3) := by decide +kernel
theorem d_MessageCoderModel_addSymbol_17 : decode prog_14_method_32_code 17 = .ok (.ireturn, 1) := by decide +kernel
set_option maxHeartbeats 4000000 in
set_option maxRecDepth 20000 in
theorem c_MessageCoderModel_addSymbol {P : xP} {F : xF} {z : Nat} {m : Nat} {th0 : Nat} {M : mcS} {c : Nat} (hD : xMD F (m) (th0) (M)) (hI : mInv M) (hc : c < 65536) : xM P xy_MessageCoderModel_addSymbol [.ref m, .int (nI (c))] F (z) 0 0 (fun r9 F9 z9 => r9 = some (.int (if codN (aDr M.1 c).1 = 0 then (aDr M.1 c).1 else nI 0)) ∧ z9 = z ∧ xMD F9 (m) (thC (codN (aDr M.1 c).1) 1 2 0 0) ((chgM M (aDr M.1 c))) ∧ (∀ a9 : Nat, (a9 < m ∨ m + 12 ≤ a9) → F9 a9 = F a9)) := by
  refine xM_i .int rfl (Nat.le_of_ble_eq_true rfl) (L0 := [some (.ref m), some (.int (nI (c)))]) rfl rfl fun Θ hC hret => ?_
  have hag : ∀ a9 : Nat, (a9 < m ∨ m + 12 ≤ a9) → F a9 = F a9 := fun a9 _ => rfl
  obtain ⟨A, S, past, ⟨pn, psg⟩, ⟨lnn, lsg⟩, sv, pp, un, ep, fc⟩ := M
  obtain ⟨rs, er, bm, dm, he, cn, g, l2, v3, r4, w5, b6, d7, b8, ln, ip, cs, o0, ga, h2, h3, h4, h5, h6, h7, h8, h9, hi, hcm, hg, hln, hip⟩ := id hD
  obtain ⟨iA, iP, iS, hu8, hup, hs1, hty, hlz, hic, hlc⟩ := id hI
  have o0 : F (m) = some (.inl (10, [.int (nI (th0)), .ref (m + 1), .int (nI (un)), .int (nI (sv)), .int rs, .ref (m + 2), .ref (m + 3), .ref (m + 4), .ref (m + 5), .ref (m + 6), .int (nI (bm)), .ref (m + 7), .int (nI (dm)), .ref (m + 8), .ref (m + 9), .int (nI (lnn)), .ref (m + 10), .int (nI (pn)), .int (nI (he)), .int er, .int ep, .int fc, .ref (m + 11), .int (nI (cn))])) := o0
  have ga : F (m + 1) = some (.inr (0, 4730, fun b9 => .int (nI (g b9)))) := ga
  have h2 : F (m + 2) = some (.inr (0, 8, fun b9 => .int (nI (l2 b9)))) := h2
  have h3 : F (m + 3) = some (.inr (0, 8, fun b9 => .int (nI (v3 b9)))) := h3
  have h4 : F (m + 4) = some (.inr (0, 8, fun b9 => .int (nI (r4 b9)))) := h4
  have h5 : F (m + 5) = some (.inr (0, 8, fun b9 => .int (nI (w5 b9)))) := h5
  have h6 : F (m + 6) = some (.inr (0, 112, fun b9 => .int (nI (b6 b9)))) := h6
  have h7 : F (m + 7) = some (.inr (0, 16, fun b9 => .int (nI (d7 b9)))) := h7
  have h8 : F (m + 8) = some (.inr (0, 17, fun b9 => .int (nI (b8 b9)))) := h8
  have h9 : F (m + 9) = some (.inr (1, 40, fun b9 => .int (nI (ln b9)))) := h9
  have hi : F (m + 10) = some (.inr (1, 60, fun b9 => .int (nI (ip b9)))) := hi
  have hcm : F (m + 11) = some (.inr (0, 183, fun b9 => .int (nI (cs b9)))) := hcm
  have hln : ∀ j, j < lnn → ln j = lsg j := hln
  have hip : ∀ j, j < pn → ip j = psg j := hip
  have iA : aInv A := iA
  have hu8 : un ≤ 8 := hu8
  have hup : un ≤ pp := hup
  have hs1 : sv ≤ 1 := hs1
  have hty : pn ≤ 60 := hty
  have hlz : lnn ≤ 32 := hlz
  have hr : rRow g A := hg.1
  refine x_aload_n hC d_MessageCoderModel_addSymbol_0 rfl rfl ?_
  refine x_callV hC kv_MessageCoderModel_122 (c_MessageCoderModel_begins (o0 := o0) (ga := ga)) o0 rfl rfl (by decide) rfl rfl rfl (Nat.le_of_ble_eq_true rfl) (by decide) d_MessageCoderModel_addSymbol_1 (fun r9 F9 z9 hp9 => ?_)
  obtain ⟨rfl, h9c, j0, j1, hag9⟩ := hp9
  rw [h9c]
  clear h9c z9
  generalize F9 = F1 at *
  have h2 : F1 (m + 2) = some (.inr (0, 8, fun b9 => .int (nI (l2 b9)))) := (hag9 _ (by omega)).trans h2
  have h3 : F1 (m + 3) = some (.inr (0, 8, fun b9 => .int (nI (v3 b9)))) := (hag9 _ (by omega)).trans h3
  have h4 : F1 (m + 4) = some (.inr (0, 8, fun b9 => .int (nI (r4 b9)))) := (hag9 _ (by omega)).trans h4
  have h5 : F1 (m + 5) = some (.inr (0, 8, fun b9 => .int (nI (w5 b9)))) := (hag9 _ (by omega)).trans h5
  have h6 : F1 (m + 6) = some (.inr (0, 112, fun b9 => .int (nI (b6 b9)))) := (hag9 _ (by omega)).trans h6
  have h7 : F1 (m + 7) = some (.inr (0, 16, fun b9 => .int (nI (d7 b9)))) := (hag9 _ (by omega)).trans h7
  have h8 : F1 (m + 8) = some (.inr (0, 17, fun b9 => .int (nI (b8 b9)))) := (hag9 _ (by omega)).trans h8
  have h9 : F1 (m + 9) = some (.inr (1, 40, fun b9 => .int (nI (ln b9)))) := (hag9 _ (by omega)).trans h9
  have hi : F1 (m + 10) = some (.inr (1, 60, fun b9 => .int (nI (ip b9)))) := (hag9 _ (by omega)).trans hi
  have hcm : F1 (m + 11) = some (.inr (0, 183, fun b9 => .int (nI (cs b9)))) := (hag9 _ (by omega)).trans hcm
  have o0 : F1 (m) = some (.inl (10, [.int (nI (th0)), .ref (m + 1), .int (nI (un)), .int (nI (sv)), .int rs, .ref (m + 2), .ref (m + 3), .ref (m + 4), .ref (m + 5), .ref (m + 6), .int (nI (bm)), .ref (m + 7), .int (nI (dm)), .ref (m + 8), .ref (m + 9), .int (nI (lnn)), .ref (m + 10), .int (nI (pn)), .int (nI (he)), .int er, .int ep, .int fc, .ref (m + 11), .int (nI (cn))])) := j0
  have ga : F1 (m + 1) = some (.inr (0, 4730, fun b9 => .int (nI ((cpyR g 0 10) b9)))) := j1
  have hag : ∀ a9 : Nat, (a9 < m ∨ m + 12 ≤ a9) → F1 a9 = F a9 := fun a9 q0 => (hag9 a9 (by omega)).trans (hag a9 q0)
  have hg_1 := hag9
  clear hag9
  refine x_aload_n hC d_MessageCoderModel_addSymbol_4 rfl rfl ?_
  refine x_aload_n hC d_MessageCoderModel_addSymbol_5 rfl rfl ?_
  refine x_iload_n hC d_MessageCoderModel_addSymbol_6 rfl rfl ?_
  have hr1 : rRow (cpyR g 0 10) A := rRow_ext iA (fun q hq => cpyR_out (by omega)) hr
  refine x_callV hC kv_MessageCoderModel_132 (c_MessageCoderModel_drafts (o0 := o0) (ga := ga) (hr := hr1) (hA := iA) (hc := hc) (A := A)) o0 rfl rfl (by decide) rfl rfl rfl (Nat.le_of_ble_eq_true rfl) (by decide) d_MessageCoderModel_addSymbol_7 (fun r9 F9 z9 hp9 => ?_)
  obtain ⟨g1, rs1, rfl, h9c, j0, j1, pr_7, po_7, pv_7, hag9⟩ := hp9
  rw [h9c]
  clear h9c z9
  generalize F9 = F2 at *
  have h2 : F2 (m + 2) = some (.inr (0, 8, fun b9 => .int (nI (l2 b9)))) := (hag9 _ (by omega)).trans h2
  have h3 : F2 (m + 3) = some (.inr (0, 8, fun b9 => .int (nI (v3 b9)))) := (hag9 _ (by omega)).trans h3
  have h4 : F2 (m + 4) = some (.inr (0, 8, fun b9 => .int (nI (r4 b9)))) := (hag9 _ (by omega)).trans h4
  have h5 : F2 (m + 5) = some (.inr (0, 8, fun b9 => .int (nI (w5 b9)))) := (hag9 _ (by omega)).trans h5
  have h6 : F2 (m + 6) = some (.inr (0, 112, fun b9 => .int (nI (b6 b9)))) := (hag9 _ (by omega)).trans h6
  have h7 : F2 (m + 7) = some (.inr (0, 16, fun b9 => .int (nI (d7 b9)))) := (hag9 _ (by omega)).trans h7
  have h8 : F2 (m + 8) = some (.inr (0, 17, fun b9 => .int (nI (b8 b9)))) := (hag9 _ (by omega)).trans h8
  have h9 : F2 (m + 9) = some (.inr (1, 40, fun b9 => .int (nI (ln b9)))) := (hag9 _ (by omega)).trans h9
  have hi : F2 (m + 10) = some (.inr (1, 60, fun b9 => .int (nI (ip b9)))) := (hag9 _ (by omega)).trans hi
  have hcm : F2 (m + 11) = some (.inr (0, 183, fun b9 => .int (nI (cs b9)))) := (hag9 _ (by omega)).trans hcm
  have o0 : F2 (m) = some (.inl (10, [.int (nI (th0)), .ref (m + 1), .int (nI (un)), .int (nI (sv)), .int rs1, .ref (m + 2), .ref (m + 3), .ref (m + 4), .ref (m + 5), .ref (m + 6), .int (nI (bm)), .ref (m + 7), .int (nI (dm)), .ref (m + 8), .ref (m + 9), .int (nI (lnn)), .ref (m + 10), .int (nI (pn)), .int (nI (he)), .int er, .int ep, .int fc, .ref (m + 11), .int (nI (cn))])) := j0
  have ga : F2 (m + 1) = some (.inr (0, 4730, fun b9 => .int (nI (g1 b9)))) := j1
  have hag : ∀ a9 : Nat, (a9 < m ∨ m + 12 ≤ a9) → F2 a9 = F a9 := fun a9 q0 => (hag9 a9 (by omega)).trans (hag a9 q0)
  have hg_7 := hag9
  clear hag9
  refine x_iconst hC d_MessageCoderModel_addSymbol_10 (v := nI 1) (by decide) ?_
  refine x_iconst hC d_MessageCoderModel_addSymbol_11 (v := nI 2) (by decide) ?_
  refine x_iconst hC d_MessageCoderModel_addSymbol_12 (v := nI 0) (by decide) ?_
  refine x_iconst hC d_MessageCoderModel_addSymbol_13 (v := nI 0) (by decide) ?_
  refine x_callV hC kv_MessageCoderModel_128 (c_MessageCoderModel_ends (o0 := o0) (ga := ga) (hy := codN_4 _) (h1 := by omega) (h2 := by omega) (h3 := by omega) (h4 := by omega) (hch := by omega)) o0 rfl rfl (by decide) rfl rfl rfl (Nat.le_of_ble_eq_true rfl) (by decide) d_MessageCoderModel_addSymbol_14 (fun r9 F9 z9 hp9 => ?_)
  obtain ⟨rfl, h9c, j0, j1, hag9⟩ := hp9
  rw [h9c]
  clear h9c z9
  generalize F9 = F3 at *
  have h2 : F3 (m + 2) = some (.inr (0, 8, fun b9 => .int (nI (l2 b9)))) := (hag9 _ (by omega)).trans h2
  have h3 : F3 (m + 3) = some (.inr (0, 8, fun b9 => .int (nI (v3 b9)))) := (hag9 _ (by omega)).trans h3
  have h4 : F3 (m + 4) = some (.inr (0, 8, fun b9 => .int (nI (r4 b9)))) := (hag9 _ (by omega)).trans h4
  have h5 : F3 (m + 5) = some (.inr (0, 8, fun b9 => .int (nI (w5 b9)))) := (hag9 _ (by omega)).trans h5
  have h6 : F3 (m + 6) = some (.inr (0, 112, fun b9 => .int (nI (b6 b9)))) := (hag9 _ (by omega)).trans h6
  have h7 : F3 (m + 7) = some (.inr (0, 16, fun b9 => .int (nI (d7 b9)))) := (hag9 _ (by omega)).trans h7
  have h8 : F3 (m + 8) = some (.inr (0, 17, fun b9 => .int (nI (b8 b9)))) := (hag9 _ (by omega)).trans h8
  have h9 : F3 (m + 9) = some (.inr (1, 40, fun b9 => .int (nI (ln b9)))) := (hag9 _ (by omega)).trans h9
  have hi : F3 (m + 10) = some (.inr (1, 60, fun b9 => .int (nI (ip b9)))) := (hag9 _ (by omega)).trans hi
  have hcm : F3 (m + 11) = some (.inr (0, 183, fun b9 => .int (nI (cs b9)))) := (hag9 _ (by omega)).trans hcm
  have o0 : F3 (m) = some (.inl (10, [.int (nI ((thC (codN (aDr A c).1) 1 2 0 0))), .ref (m + 1), .int (nI ((if thC (codN (aDr A c).1) 1 2 0 0 = 0 then endC un else un))), .int (nI (sv)), .int rs1, .ref (m + 2), .ref (m + 3), .ref (m + 4), .ref (m + 5), .ref (m + 6), .int (nI (bm)), .ref (m + 7), .int (nI (dm)), .ref (m + 8), .ref (m + 9), .int (nI (lnn)), .ref (m + 10), .int (nI (pn)), .int (nI (he)), .int er, .int ep, .int fc, .ref (m + 11), .int (nI (cn))])) := j0
  have ga : F3 (m + 1) = some (.inr (0, 4730, fun b9 => .int (nI ((if thC (codN (aDr A c).1) 1 2 0 0 = 0 then endG g1 un else cpyR g1 10 0) b9)))) := j1
  have hag : ∀ a9 : Nat, (a9 < m ∨ m + 12 ≤ a9) → F3 a9 = F a9 := fun a9 q0 => (hag9 a9 (by omega)).trans (hag a9 q0)
  have hg_14 := hag9
  clear hag9
  refine hret _ _ _ _ _ _ _ d_MessageCoderModel_addSymbol_17 (by decide) (by decide) rfl ?_
  have hX9 : (codN (aDr A c).1 = 0 ∧ ¬ (aDr A c).1 < 0 ∧ thC (codN (aDr A c).1) 1 2 0 0 = 0) ∨ (codN (aDr A c).1 ≠ 0 ∧ (aDr A c).1 < 0 ∧ (aDr A c).2 = A ∧ thC (codN (aDr A c).1) 1 2 0 0 ≠ 0) := by
    rcases res_Dr A c with e9 | e9 | e9
    · exact Or.inl ⟨codN_pos e9, e9, by rw [codN_pos e9]; rfl⟩
    · exact Or.inr ⟨by rw [e9]; show ¬ codN (-1) = 0; decide, by rw [e9]; show (-1 : Int32) < 0; decide, by rw [e9], by rw [e9]; show ¬ thC (codN (-1)) 1 2 0 0 = 0; decide⟩
    · exact Or.inr ⟨by rw [e9]; show ¬ codN (-2) = 0; decide, by rw [e9]; show (-2 : Int32) < 0; decide, by rw [e9], by rw [e9]; show ¬ thC (codN (-2)) 1 2 0 0 = 0; decide⟩
  have hX8 : (thC (codN (aDr A c).1) 1 2 0 0 = 0 ∧ ¬ (aDr A c).1 < 0) ∨ (thC (codN (aDr A c).1) 1 2 0 0 ≠ 0 ∧ (aDr A c).1 < 0 ∧ (aDr A c).2 = A) := hX9.elim (fun h => Or.inl ⟨h.2.2, h.2.1⟩) (fun h => Or.inr ⟨h.2.2.2, h.2.1, h.2.2.1⟩)
  obtain ⟨hR, hU⟩ := chg_R hI hg (inv_Dr iA c) pr_7 po_7 hX8
  have hR : rMD (if thC (codN (aDr A c).1) 1 2 0 0 = 0 then endG g1 un else cpyR g1 10 0) (chgM (A, S, past, (pn, psg), (lnn, lsg), sv, pp, un, ep, fc) (aDr A c)) := hR
  have hU : (if thC (codN (aDr A c).1) 1 2 0 0 = 0 then endC un else un) = chU (aDr A c).1 un := hU
  have hV : (if thC (codN (aDr A c).1) 1 2 0 0 = 0 then rs1 else nI 0) = (if codN (aDr A c).1 = 0 then (aDr A c).1 else nI 0) := by
    rcases hX9 with h | h
    · rw [if_pos h.2.2, if_pos h.1]; exact pv_7 h.1
    · rw [if_neg h.2.2.2, if_neg h.1]
  rw [hU] at o0
  exact ⟨congrArg (fun q => some (Value.int q)) hV, rfl, ⟨_, _, _, _, _, _, _, _, _, _, _, _, _, _, _, _, _, o0, ga, h2, h3, h4, h5, h6, h7, h8, h9, hi, hcm, hR, hln, hip⟩, hag⟩

theorem d_MessageCoderModel_clearDraft_0 : decode prog_14_method_34_code 0 = .ok (.aload_n 0, 1) := by decide +kernel
theorem d_MessageCoderModel_clearDraft_1 : decode prog_14_method_34_code 1 = .ok (.invokevirtual 122, 3) := by decide +kernel
theorem d_MessageCoderModel_clearDraft_4 : decode prog_14_method_34_code 4 = .ok (.aload_n 0, 1) := by decide +kernel
theorem d_MessageCoderModel_clearDraft_5 : decode prog_14_method_34_code 5 = .ok (.aload_n 0, 1) := by decide +kernel
theorem d_MessageCoderModel_clearDraft_6 : decode prog_14_method_34_code 6 = .ok (.invokevirtual 135, 3) := by decide +kernel
theorem d_MessageCoderModel_clearDraft_9 : decode prog_14_method_34_code 9 = .ok (.iconst 0, 1) := by decide +kernel
theorem d_MessageCoderModel_clearDraft_10 : decode prog_14_method_34_code 10 = .ok (.iconst 0, 1) := by decide +kernel
theorem d_MessageCoderModel_clearDraft_11 : decode prog_14_method_34_code 11 = .ok (.iconst 0, 1) := by decide +kernel
theorem d_MessageCoderModel_clearDraft_12 : decode prog_14_method_34_code 12 = .ok (.iconst 0, 1) := by decide +kernel
theorem d_MessageCoderModel_clearDraft_13 : decode prog_14_method_34_code 13 = .ok (.invokevirtual 128, 3) := by decide +kernel
theorem d_MessageCoderModel_clearDraft_16 : decode prog_14_method_34_code 16 = .ok (.ireturn, 1) := by decide +kernel
set_option maxHeartbeats 4000000 in
set_option maxRecDepth 20000 in
theorem c_MessageCoderModel_clearDraft {P : xP} {F : xF} {z : Nat} {m : Nat} {th0 : Nat} {M : mcS} (hD : xMD F (m) (th0) (M)) (hI : mInv M) : xM P xy_MessageCoderModel_clearDraft [.ref m] F (z) 0 0 (fun r9 F9 z9 => r9 = some (.int ((aCl M.1).1)) ∧ z9 = z ∧ xMD F9 (m) (0) ((chgM M (aCl M.1))) ∧ (∀ a9 : Nat, (a9 < m ∨ m + 12 ≤ a9) → F9 a9 = F a9)) := by
  refine xM_i .int rfl (Nat.le_of_ble_eq_true rfl) (L0 := [some (.ref m)]) rfl rfl fun Θ hC hret => ?_
  have hag : ∀ a9 : Nat, (a9 < m ∨ m + 12 ≤ a9) → F a9 = F a9 := fun a9 _ => rfl
  obtain ⟨A, S, past, ⟨pn, psg⟩, ⟨lnn, lsg⟩, sv, pp, un, ep, fc⟩ := M
  obtain ⟨rs, er, bm, dm, he, cn, g, l2, v3, r4, w5, b6, d7, b8, ln, ip, cs, o0, ga, h2, h3, h4, h5, h6, h7, h8, h9, hi, hcm, hg, hln, hip⟩ := id hD
  obtain ⟨iA, iP, iS, hu8, hup, hs1, hty, hlz, hic, hlc⟩ := id hI
  have o0 : F (m) = some (.inl (10, [.int (nI (th0)), .ref (m + 1), .int (nI (un)), .int (nI (sv)), .int rs, .ref (m + 2), .ref (m + 3), .ref (m + 4), .ref (m + 5), .ref (m + 6), .int (nI (bm)), .ref (m + 7), .int (nI (dm)), .ref (m + 8), .ref (m + 9), .int (nI (lnn)), .ref (m + 10), .int (nI (pn)), .int (nI (he)), .int er, .int ep, .int fc, .ref (m + 11), .int (nI (cn))])) := o0
  have ga : F (m + 1) = some (.inr (0, 4730, fun b9 => .int (nI (g b9)))) := ga
  have h2 : F (m + 2) = some (.inr (0, 8, fun b9 => .int (nI (l2 b9)))) := h2
  have h3 : F (m + 3) = some (.inr (0, 8, fun b9 => .int (nI (v3 b9)))) := h3
  have h4 : F (m + 4) = some (.inr (0, 8, fun b9 => .int (nI (r4 b9)))) := h4
  have h5 : F (m + 5) = some (.inr (0, 8, fun b9 => .int (nI (w5 b9)))) := h5
  have h6 : F (m + 6) = some (.inr (0, 112, fun b9 => .int (nI (b6 b9)))) := h6
  have h7 : F (m + 7) = some (.inr (0, 16, fun b9 => .int (nI (d7 b9)))) := h7
  have h8 : F (m + 8) = some (.inr (0, 17, fun b9 => .int (nI (b8 b9)))) := h8
  have h9 : F (m + 9) = some (.inr (1, 40, fun b9 => .int (nI (ln b9)))) := h9
  have hi : F (m + 10) = some (.inr (1, 60, fun b9 => .int (nI (ip b9)))) := hi
  have hcm : F (m + 11) = some (.inr (0, 183, fun b9 => .int (nI (cs b9)))) := hcm
  have hln : ∀ j, j < lnn → ln j = lsg j := hln
  have hip : ∀ j, j < pn → ip j = psg j := hip
  have iA : aInv A := iA
  have hu8 : un ≤ 8 := hu8
  have hup : un ≤ pp := hup
  have hs1 : sv ≤ 1 := hs1
  have hty : pn ≤ 60 := hty
  have hlz : lnn ≤ 32 := hlz
  have hr : rRow g A := hg.1
  refine x_aload_n hC d_MessageCoderModel_clearDraft_0 rfl rfl ?_
  refine x_callV hC kv_MessageCoderModel_122 (c_MessageCoderModel_begins (o0 := o0) (ga := ga)) o0 rfl rfl (by decide) rfl rfl rfl (Nat.le_of_ble_eq_true rfl) (by decide) d_MessageCoderModel_clearDraft_1 (fun r9 F9 z9 hp9 => ?_)
  obtain ⟨rfl, h9c, j0, j1, hag9⟩ := hp9
  rw [h9c]
  clear h9c z9
  generalize F9 = F1 at *
  have h2 : F1 (m + 2) = some (.inr (0, 8, fun b9 => .int (nI (l2 b9)))) := (hag9 _ (by omega)).trans h2
  have h3 : F1 (m + 3) = some (.inr (0, 8, fun b9 => .int (nI (v3 b9)))) := (hag9 _ (by omega)).trans h3
  have h4 : F1 (m + 4) = some (.inr (0, 8, fun b9 => .int (nI (r4 b9)))) := (hag9 _ (by omega)).trans h4
  have h5 : F1 (m + 5) = some (.inr (0, 8, fun b9 => .int (nI (w5 b9)))) := (hag9 _ (by omega)).trans h5
  have h6 : F1 (m + 6) = some (.inr (0, 112, fun b9 => .int (nI (b6 b9)))) := (hag9 _ (by omega)).trans h6
  have h7 : F1 (m + 7) = some (.inr (0, 16, fun b9 => .int (nI (d7 b9)))) := (hag9 _ (by omega)).trans h7
  have h8 : F1 (m + 8) = some (.inr (0, 17, fun b9 => .int (nI (b8 b9)))) := (hag9 _ (by omega)).trans h8
  have h9 : F1 (m + 9) = some (.inr (1, 40, fun b9 => .int (nI (ln b9)))) := (hag9 _ (by omega)).trans h9
  have hi : F1 (m + 10) = some (.inr (1, 60, fun b9 => .int (nI (ip b9)))) := (hag9 _ (by omega)).trans hi
  have hcm : F1 (m + 11) = some (.inr (0, 183, fun b9 => .int (nI (cs b9)))) := (hag9 _ (by omega)).trans hcm
  have o0 : F1 (m) = some (.inl (10, [.int (nI (th0)), .ref (m + 1), .int (nI (un)), .int (nI (sv)), .int rs, .ref (m + 2), .ref (m + 3), .ref (m + 4), .ref (m + 5), .ref (m + 6), .int (nI (bm)), .ref (m + 7), .int (nI (dm)), .ref (m + 8), .ref (m + 9), .int (nI (lnn)), .ref (m + 10), .int (nI (pn)), .int (nI (he)), .int er, .int ep, .int fc, .ref (m + 11), .int (nI (cn))])) := j0
  have ga : F1 (m + 1) = some (.inr (0, 4730, fun b9 => .int (nI ((cpyR g 0 10) b9)))) := j1
  have hag : ∀ a9 : Nat, (a9 < m ∨ m + 12 ≤ a9) → F1 a9 = F a9 := fun a9 q0 => (hag9 a9 (by omega)).trans (hag a9 q0)
  have hg_1 := hag9
  clear hag9
  refine x_aload_n hC d_MessageCoderModel_clearDraft_4 rfl rfl ?_
  refine x_aload_n hC d_MessageCoderModel_clearDraft_5 rfl rfl ?_
  have hr1 : rRow (cpyR g 0 10) A := rRow_ext iA (fun q hq => cpyR_out (by omega)) hr
  refine x_callV hC kv_MessageCoderModel_135 (c_MessageCoderModel_clears (o0 := o0) (ga := ga)) o0 rfl rfl (by decide) rfl rfl rfl (Nat.le_of_ble_eq_true rfl) (by decide) d_MessageCoderModel_clearDraft_6 (fun r9 F9 z9 hp9 => ?_)
  obtain ⟨rfl, h9c, j0, j1, hag9⟩ := hp9
  rw [h9c]
  clear h9c z9
  generalize F9 = F2 at *
  have h2 : F2 (m + 2) = some (.inr (0, 8, fun b9 => .int (nI (l2 b9)))) := (hag9 _ (by omega)).trans h2
  have h3 : F2 (m + 3) = some (.inr (0, 8, fun b9 => .int (nI (v3 b9)))) := (hag9 _ (by omega)).trans h3
  have h4 : F2 (m + 4) = some (.inr (0, 8, fun b9 => .int (nI (r4 b9)))) := (hag9 _ (by omega)).trans h4
  have h5 : F2 (m + 5) = some (.inr (0, 8, fun b9 => .int (nI (w5 b9)))) := (hag9 _ (by omega)).trans h5
  have h6 : F2 (m + 6) = some (.inr (0, 112, fun b9 => .int (nI (b6 b9)))) := (hag9 _ (by omega)).trans h6
  have h7 : F2 (m + 7) = some (.inr (0, 16, fun b9 => .int (nI (d7 b9)))) := (hag9 _ (by omega)).trans h7
  have h8 : F2 (m + 8) = some (.inr (0, 17, fun b9 => .int (nI (b8 b9)))) := (hag9 _ (by omega)).trans h8
  have h9 : F2 (m + 9) = some (.inr (1, 40, fun b9 => .int (nI (ln b9)))) := (hag9 _ (by omega)).trans h9
  have hi : F2 (m + 10) = some (.inr (1, 60, fun b9 => .int (nI (ip b9)))) := (hag9 _ (by omega)).trans hi
  have hcm : F2 (m + 11) = some (.inr (0, 183, fun b9 => .int (nI (cs b9)))) := (hag9 _ (by omega)).trans hcm
  have o0 : F2 (m) = some (.inl (10, [.int (nI (th0)), .ref (m + 1), .int (nI (un)), .int (nI (sv)), .int (nI ((cpyR g 0 10) 0)), .ref (m + 2), .ref (m + 3), .ref (m + 4), .ref (m + 5), .ref (m + 6), .int (nI (bm)), .ref (m + 7), .int (nI (dm)), .ref (m + 8), .ref (m + 9), .int (nI (lnn)), .ref (m + 10), .int (nI (pn)), .int (nI (he)), .int er, .int ep, .int fc, .ref (m + 11), .int (nI (cn))])) := j0
  have ga : F2 (m + 1) = some (.inr (0, 4730, fun b9 => .int (nI ((clG (cpyR g 0 10)) b9)))) := j1
  have hag : ∀ a9 : Nat, (a9 < m ∨ m + 12 ≤ a9) → F2 a9 = F a9 := fun a9 q0 => (hag9 a9 (by omega)).trans (hag a9 q0)
  have hg_6 := hag9
  clear hag9
  refine x_iconst hC d_MessageCoderModel_clearDraft_9 (v := nI 0) (by decide) ?_
  refine x_iconst hC d_MessageCoderModel_clearDraft_10 (v := nI 0) (by decide) ?_
  refine x_iconst hC d_MessageCoderModel_clearDraft_11 (v := nI 0) (by decide) ?_
  refine x_iconst hC d_MessageCoderModel_clearDraft_12 (v := nI 0) (by decide) ?_
  refine x_callV hC kv_MessageCoderModel_128 (c_MessageCoderModel_ends (o0 := o0) (ga := ga) (hy := by omega) (h1 := by omega) (h2 := by omega) (h3 := by omega) (h4 := by omega) (hch := by omega)) o0 rfl rfl (by decide) rfl rfl rfl (Nat.le_of_ble_eq_true rfl) (by decide) d_MessageCoderModel_clearDraft_13 (fun r9 F9 z9 hp9 => ?_)
  obtain ⟨rfl, h9c, j0, j1, hag9⟩ := hp9
  rw [h9c]
  clear h9c z9
  generalize F9 = F3 at *
  have h2 : F3 (m + 2) = some (.inr (0, 8, fun b9 => .int (nI (l2 b9)))) := (hag9 _ (by omega)).trans h2
  have h3 : F3 (m + 3) = some (.inr (0, 8, fun b9 => .int (nI (v3 b9)))) := (hag9 _ (by omega)).trans h3
  have h4 : F3 (m + 4) = some (.inr (0, 8, fun b9 => .int (nI (r4 b9)))) := (hag9 _ (by omega)).trans h4
  have h5 : F3 (m + 5) = some (.inr (0, 8, fun b9 => .int (nI (w5 b9)))) := (hag9 _ (by omega)).trans h5
  have h6 : F3 (m + 6) = some (.inr (0, 112, fun b9 => .int (nI (b6 b9)))) := (hag9 _ (by omega)).trans h6
  have h7 : F3 (m + 7) = some (.inr (0, 16, fun b9 => .int (nI (d7 b9)))) := (hag9 _ (by omega)).trans h7
  have h8 : F3 (m + 8) = some (.inr (0, 17, fun b9 => .int (nI (b8 b9)))) := (hag9 _ (by omega)).trans h8
  have h9 : F3 (m + 9) = some (.inr (1, 40, fun b9 => .int (nI (ln b9)))) := (hag9 _ (by omega)).trans h9
  have hi : F3 (m + 10) = some (.inr (1, 60, fun b9 => .int (nI (ip b9)))) := (hag9 _ (by omega)).trans hi
  have hcm : F3 (m + 11) = some (.inr (0, 183, fun b9 => .int (nI (cs b9)))) := (hag9 _ (by omega)).trans hcm
  have o0 : F3 (m) = some (.inl (10, [.int (nI ((thC 0 0 0 0 0))), .ref (m + 1), .int (nI ((if thC 0 0 0 0 0 = 0 then endC un else un))), .int (nI (sv)), .int ((nI ((cpyR g 0 10) 0))), .ref (m + 2), .ref (m + 3), .ref (m + 4), .ref (m + 5), .ref (m + 6), .int (nI (bm)), .ref (m + 7), .int (nI (dm)), .ref (m + 8), .ref (m + 9), .int (nI (lnn)), .ref (m + 10), .int (nI (pn)), .int (nI (he)), .int er, .int ep, .int fc, .ref (m + 11), .int (nI (cn))])) := j0
  have ga : F3 (m + 1) = some (.inr (0, 4730, fun b9 => .int (nI ((if thC 0 0 0 0 0 = 0 then endG (clG (cpyR g 0 10)) un else cpyR (clG (cpyR g 0 10)) 10 0) b9)))) := j1
  have hag : ∀ a9 : Nat, (a9 < m ∨ m + 12 ≤ a9) → F3 a9 = F a9 := fun a9 q0 => (hag9 a9 (by omega)).trans (hag a9 q0)
  have hg_13 := hag9
  clear hag9
  refine hret _ _ _ _ _ _ _ d_MessageCoderModel_clearDraft_16 (by decide) (by decide) rfl ?_
  have kr : rRow (clG (cpyR g 0 10)) (aCl A).2 := by
    obtain ⟨⟨q0, q1, q2, q3, q4, q5, q6, q7, q9⟩, qw, qd, qm, qf, qx, qb⟩ := id hr1
    obtain ⟨⟨u1, u2, u3, u4, u5⟩, uw, ud, um, uo, ut, ux, ub, un9⟩ := id iA
    have hf : ∀ q, q ≠ 0 ∧ (q < 18 ∨ 34 ≤ q) → clG (cpyR g 0 10) q = cpyR g 0 10 q := fun q hq => clG_o hq
    have kr : rRow (clG (cpyR g 0 10)) (aCl A).2 := ⟨⟨clG_0 _, (hf 1 (by omega)).trans q1, (hf 2 (by omega)).trans q2, (hf 3 (by omega)).trans q3, (hf 4 (by omega)).trans q4, (hf 5 (by omega)).trans q5, (hf 6 (by omega)).trans q6, (hf 7 (by omega)).trans q7, (hf 9 (by omega)).trans q9⟩, fun j (hj : j < 8) => (hf _ (by omega)).trans (qw j hj), fun j hj => absurd hj (Nat.not_lt_zero j), fun i (hi : i < A.2.2.1.1) => rMsg_ext (um i hi).2.2.1 (fun q hq => hf _ (by omega)) (qm i hi), fun (hk : 0 < A.2.2.2.1.1) => ⟨(hf 8 (by omega)).trans (qf hk).1, fun j hj => ⟨(hf _ (by omega)).trans ((qf hk).2.1 j hj).1, (hf _ (by omega)).trans ((qf hk).2.1 j hj).2⟩, fun j (hj : j < A.2.2.2.1.2.2.1) => by rw [hf _ (by omega)]; exact (qf hk).2.2 j hj⟩, fun j (hj : j < A.2.2.2.2.1.1) => by rw [hf _ (by omega)]; exact qx j hj, fun b (hb : b < A.2.2.2.1.1) p hp => (hf _ (by omega)).trans (qb b hb p hp)⟩
    exact kr
  obtain ⟨hR, hU⟩ := chg_R (t := 0) hI hg (inv_Cl iA) kr (fun q hq => clG_o (by omega)) (Or.inl ⟨rfl, res_Cl A iA⟩)
  have hR : rMD (endG (clG (cpyR g 0 10)) un) (chgM (A, S, past, (pn, psg), (lnn, lsg), sv, pp, un, ep, fc) (aCl A)) := hR
  have hU : endC un = chU (aCl A).1 un := hU
  have hV : nI (cpyR g 0 10 0) = (aCl A).1 := congrArg nI hr1.1.1
  have o0 : F3 (m) = some (.inl (10, [.int (nI 0), .ref (m + 1), .int (nI ((chU (aCl A).1 un))), .int (nI (sv)), .int ((nI (cpyR g 0 10 0))), .ref (m + 2), .ref (m + 3), .ref (m + 4), .ref (m + 5), .ref (m + 6), .int (nI (bm)), .ref (m + 7), .int (nI (dm)), .ref (m + 8), .ref (m + 9), .int (nI (lnn)), .ref (m + 10), .int (nI (pn)), .int (nI (he)), .int er, .int ep, .int fc, .ref (m + 11), .int (nI (cn))])) := by rw [← hU]; exact o0
  exact ⟨congrArg (fun q => some (Value.int q)) hV, rfl, ⟨_, _, _, _, _, _, _, _, _, _, _, _, _, _, _, _, _, o0, ga, h2, h3, h4, h5, h6, h7, h8, h9, hi, hcm, hR, hln, hip⟩, hag⟩

theorem d_MessageCoderModel_post_0 : decode prog_14_method_36_code 0 = .ok (.aload_n 0, 1) := by decide +kernel
theorem d_MessageCoderModel_post_1 : decode prog_14_method_36_code 1 = .ok (.invokevirtual 122, 3) := by decide +kernel
theorem d_MessageCoderModel_post_4 : decode prog_14_method_36_code 4 = .ok (.aload_n 0, 1) := by decide +kernel
theorem d_MessageCoderModel_post_5 : decode prog_14_method_36_code 5 = .ok (.aload_n 0, 1) := by decide +kernel
theorem d_MessageCoderModel_post_6 : decode prog_14_method_36_code 6 = .ok (.iload_n 1, 1) := by decide +kernel
theorem d_MessageCoderModel_post_7 : decode prog_14_method_36_code 7 = .ok (.invokevirtual 139, 3) := by decide +kernel
theorem d_MessageCoderModel_post_10 : decode prog_14_method_36_code 10 = .ok (.iconst 1, 1) := by decide +kernel
theorem d_MessageCoderModel_post_11 : decode prog_14_method_36_code 11 = .ok (.iconst 2, 1) := by decide +kernel
theorem d_MessageCoderModel_post_12 : decode prog_14_method_36_code 12 = .ok (.iconst 0, 1) := by decide +kernel
theorem d_MessageCoderModel_post_13 : decode prog_14_method_36_code 13 = .ok (.iconst 0, 1) := by decide +kernel
theorem d_MessageCoderModel_post_14 : decode prog_14_method_36_code 14 = .ok (.invokevirtual 128, 3) := by decide +kernel
theorem d_MessageCoderModel_post_17 : decode prog_14_method_36_code 17 = .ok (.ireturn, 1) := by decide +kernel
set_option maxHeartbeats 4000000 in
set_option maxRecDepth 20000 in
theorem c_MessageCoderModel_post {P : xP} {F : xF} {z : Nat} {m : Nat} {th0 : Nat} {M : mcS} {a : Int32} (hD : xMD F (m) (th0) (M)) (hI : mInv M) (hn0 : M.1.2.2.1.2.1 + 1 < 1000) : xM P xy_MessageCoderModel_post [.ref m, .int a] F (z) 0 0 (fun r9 F9 z9 => r9 = some (.int (if codN (aPo M.1 a).1 = 0 then (aPo M.1 a).1 else nI 0)) ∧ z9 = z ∧ xMD F9 (m) (thC (codN (aPo M.1 a).1) 1 2 0 0) ((chgM M (aPo M.1 a))) ∧ (∀ a9 : Nat, (a9 < m ∨ m + 12 ≤ a9) → F9 a9 = F a9)) := by
  refine xM_i .int rfl (Nat.le_of_ble_eq_true rfl) (L0 := [some (.ref m), some (.int a)]) rfl rfl fun Θ hC hret => ?_
  have hag : ∀ a9 : Nat, (a9 < m ∨ m + 12 ≤ a9) → F a9 = F a9 := fun a9 _ => rfl
  obtain ⟨A, S, past, ⟨pn, psg⟩, ⟨lnn, lsg⟩, sv, pp, un, ep, fc⟩ := M
  obtain ⟨rs, er, bm, dm, he, cn, g, l2, v3, r4, w5, b6, d7, b8, ln, ip, cs, o0, ga, h2, h3, h4, h5, h6, h7, h8, h9, hi, hcm, hg, hln, hip⟩ := id hD
  obtain ⟨iA, iP, iS, hu8, hup, hs1, hty, hlz, hic, hlc⟩ := id hI
  have o0 : F (m) = some (.inl (10, [.int (nI (th0)), .ref (m + 1), .int (nI (un)), .int (nI (sv)), .int rs, .ref (m + 2), .ref (m + 3), .ref (m + 4), .ref (m + 5), .ref (m + 6), .int (nI (bm)), .ref (m + 7), .int (nI (dm)), .ref (m + 8), .ref (m + 9), .int (nI (lnn)), .ref (m + 10), .int (nI (pn)), .int (nI (he)), .int er, .int ep, .int fc, .ref (m + 11), .int (nI (cn))])) := o0
  have ga : F (m + 1) = some (.inr (0, 4730, fun b9 => .int (nI (g b9)))) := ga
  have h2 : F (m + 2) = some (.inr (0, 8, fun b9 => .int (nI (l2 b9)))) := h2
  have h3 : F (m + 3) = some (.inr (0, 8, fun b9 => .int (nI (v3 b9)))) := h3
  have h4 : F (m + 4) = some (.inr (0, 8, fun b9 => .int (nI (r4 b9)))) := h4
  have h5 : F (m + 5) = some (.inr (0, 8, fun b9 => .int (nI (w5 b9)))) := h5
  have h6 : F (m + 6) = some (.inr (0, 112, fun b9 => .int (nI (b6 b9)))) := h6
  have h7 : F (m + 7) = some (.inr (0, 16, fun b9 => .int (nI (d7 b9)))) := h7
  have h8 : F (m + 8) = some (.inr (0, 17, fun b9 => .int (nI (b8 b9)))) := h8
  have h9 : F (m + 9) = some (.inr (1, 40, fun b9 => .int (nI (ln b9)))) := h9
  have hi : F (m + 10) = some (.inr (1, 60, fun b9 => .int (nI (ip b9)))) := hi
  have hcm : F (m + 11) = some (.inr (0, 183, fun b9 => .int (nI (cs b9)))) := hcm
  have hln : ∀ j, j < lnn → ln j = lsg j := hln
  have hip : ∀ j, j < pn → ip j = psg j := hip
  have iA : aInv A := iA
  have hu8 : un ≤ 8 := hu8
  have hup : un ≤ pp := hup
  have hs1 : sv ≤ 1 := hs1
  have hty : pn ≤ 60 := hty
  have hlz : lnn ≤ 32 := hlz
  have hr : rRow g A := hg.1
  have hn : A.2.2.1.2.1 + 1 < 1000 := hn0
  refine x_aload_n hC d_MessageCoderModel_post_0 rfl rfl ?_
  refine x_callV hC kv_MessageCoderModel_122 (c_MessageCoderModel_begins (o0 := o0) (ga := ga)) o0 rfl rfl (by decide) rfl rfl rfl (Nat.le_of_ble_eq_true rfl) (by decide) d_MessageCoderModel_post_1 (fun r9 F9 z9 hp9 => ?_)
  obtain ⟨rfl, h9c, j0, j1, hag9⟩ := hp9
  rw [h9c]
  clear h9c z9
  generalize F9 = F1 at *
  have h2 : F1 (m + 2) = some (.inr (0, 8, fun b9 => .int (nI (l2 b9)))) := (hag9 _ (by omega)).trans h2
  have h3 : F1 (m + 3) = some (.inr (0, 8, fun b9 => .int (nI (v3 b9)))) := (hag9 _ (by omega)).trans h3
  have h4 : F1 (m + 4) = some (.inr (0, 8, fun b9 => .int (nI (r4 b9)))) := (hag9 _ (by omega)).trans h4
  have h5 : F1 (m + 5) = some (.inr (0, 8, fun b9 => .int (nI (w5 b9)))) := (hag9 _ (by omega)).trans h5
  have h6 : F1 (m + 6) = some (.inr (0, 112, fun b9 => .int (nI (b6 b9)))) := (hag9 _ (by omega)).trans h6
  have h7 : F1 (m + 7) = some (.inr (0, 16, fun b9 => .int (nI (d7 b9)))) := (hag9 _ (by omega)).trans h7
  have h8 : F1 (m + 8) = some (.inr (0, 17, fun b9 => .int (nI (b8 b9)))) := (hag9 _ (by omega)).trans h8
  have h9 : F1 (m + 9) = some (.inr (1, 40, fun b9 => .int (nI (ln b9)))) := (hag9 _ (by omega)).trans h9
  have hi : F1 (m + 10) = some (.inr (1, 60, fun b9 => .int (nI (ip b9)))) := (hag9 _ (by omega)).trans hi
  have hcm : F1 (m + 11) = some (.inr (0, 183, fun b9 => .int (nI (cs b9)))) := (hag9 _ (by omega)).trans hcm
  have o0 : F1 (m) = some (.inl (10, [.int (nI (th0)), .ref (m + 1), .int (nI (un)), .int (nI (sv)), .int rs, .ref (m + 2), .ref (m + 3), .ref (m + 4), .ref (m + 5), .ref (m + 6), .int (nI (bm)), .ref (m + 7), .int (nI (dm)), .ref (m + 8), .ref (m + 9), .int (nI (lnn)), .ref (m + 10), .int (nI (pn)), .int (nI (he)), .int er, .int ep, .int fc, .ref (m + 11), .int (nI (cn))])) := j0
  have ga : F1 (m + 1) = some (.inr (0, 4730, fun b9 => .int (nI ((cpyR g 0 10) b9)))) := j1
  have hag : ∀ a9 : Nat, (a9 < m ∨ m + 12 ≤ a9) → F1 a9 = F a9 := fun a9 q0 => (hag9 a9 (by omega)).trans (hag a9 q0)
  have hg_1 := hag9
  clear hag9
  refine x_aload_n hC d_MessageCoderModel_post_4 rfl rfl ?_
  refine x_aload_n hC d_MessageCoderModel_post_5 rfl rfl ?_
  refine x_iload_n hC d_MessageCoderModel_post_6 rfl rfl ?_
  have hr1 : rRow (cpyR g 0 10) A := rRow_ext iA (fun q hq => cpyR_out (by omega)) hr
  refine x_callV hC kv_MessageCoderModel_139 (c_MessageCoderModel_posts (o0 := o0) (ga := ga) (hr := hr1) (hA := iA) (A := A)) o0 rfl rfl (by decide) rfl rfl rfl (Nat.le_of_ble_eq_true rfl) (by decide) d_MessageCoderModel_post_7 (fun r9 F9 z9 hp9 => ?_)
  obtain ⟨g1, rs1, rfl, h9c, j0, j1, pr_7, po_7, pv_7, hag9⟩ := hp9
  rw [h9c]
  clear h9c z9
  generalize F9 = F2 at *
  have h2 : F2 (m + 2) = some (.inr (0, 8, fun b9 => .int (nI (l2 b9)))) := (hag9 _ (by omega)).trans h2
  have h3 : F2 (m + 3) = some (.inr (0, 8, fun b9 => .int (nI (v3 b9)))) := (hag9 _ (by omega)).trans h3
  have h4 : F2 (m + 4) = some (.inr (0, 8, fun b9 => .int (nI (r4 b9)))) := (hag9 _ (by omega)).trans h4
  have h5 : F2 (m + 5) = some (.inr (0, 8, fun b9 => .int (nI (w5 b9)))) := (hag9 _ (by omega)).trans h5
  have h6 : F2 (m + 6) = some (.inr (0, 112, fun b9 => .int (nI (b6 b9)))) := (hag9 _ (by omega)).trans h6
  have h7 : F2 (m + 7) = some (.inr (0, 16, fun b9 => .int (nI (d7 b9)))) := (hag9 _ (by omega)).trans h7
  have h8 : F2 (m + 8) = some (.inr (0, 17, fun b9 => .int (nI (b8 b9)))) := (hag9 _ (by omega)).trans h8
  have h9 : F2 (m + 9) = some (.inr (1, 40, fun b9 => .int (nI (ln b9)))) := (hag9 _ (by omega)).trans h9
  have hi : F2 (m + 10) = some (.inr (1, 60, fun b9 => .int (nI (ip b9)))) := (hag9 _ (by omega)).trans hi
  have hcm : F2 (m + 11) = some (.inr (0, 183, fun b9 => .int (nI (cs b9)))) := (hag9 _ (by omega)).trans hcm
  have o0 : F2 (m) = some (.inl (10, [.int (nI (th0)), .ref (m + 1), .int (nI (un)), .int (nI (sv)), .int rs1, .ref (m + 2), .ref (m + 3), .ref (m + 4), .ref (m + 5), .ref (m + 6), .int (nI (bm)), .ref (m + 7), .int (nI (dm)), .ref (m + 8), .ref (m + 9), .int (nI (lnn)), .ref (m + 10), .int (nI (pn)), .int (nI (he)), .int er, .int ep, .int fc, .ref (m + 11), .int (nI (cn))])) := j0
  have ga : F2 (m + 1) = some (.inr (0, 4730, fun b9 => .int (nI (g1 b9)))) := j1
  have hag : ∀ a9 : Nat, (a9 < m ∨ m + 12 ≤ a9) → F2 a9 = F a9 := fun a9 q0 => (hag9 a9 (by omega)).trans (hag a9 q0)
  have hg_7 := hag9
  clear hag9
  refine x_iconst hC d_MessageCoderModel_post_10 (v := nI 1) (by decide) ?_
  refine x_iconst hC d_MessageCoderModel_post_11 (v := nI 2) (by decide) ?_
  refine x_iconst hC d_MessageCoderModel_post_12 (v := nI 0) (by decide) ?_
  refine x_iconst hC d_MessageCoderModel_post_13 (v := nI 0) (by decide) ?_
  refine x_callV hC kv_MessageCoderModel_128 (c_MessageCoderModel_ends (o0 := o0) (ga := ga) (hy := codN_4 _) (h1 := by omega) (h2 := by omega) (h3 := by omega) (h4 := by omega) (hch := by omega)) o0 rfl rfl (by decide) rfl rfl rfl (Nat.le_of_ble_eq_true rfl) (by decide) d_MessageCoderModel_post_14 (fun r9 F9 z9 hp9 => ?_)
  obtain ⟨rfl, h9c, j0, j1, hag9⟩ := hp9
  rw [h9c]
  clear h9c z9
  generalize F9 = F3 at *
  have h2 : F3 (m + 2) = some (.inr (0, 8, fun b9 => .int (nI (l2 b9)))) := (hag9 _ (by omega)).trans h2
  have h3 : F3 (m + 3) = some (.inr (0, 8, fun b9 => .int (nI (v3 b9)))) := (hag9 _ (by omega)).trans h3
  have h4 : F3 (m + 4) = some (.inr (0, 8, fun b9 => .int (nI (r4 b9)))) := (hag9 _ (by omega)).trans h4
  have h5 : F3 (m + 5) = some (.inr (0, 8, fun b9 => .int (nI (w5 b9)))) := (hag9 _ (by omega)).trans h5
  have h6 : F3 (m + 6) = some (.inr (0, 112, fun b9 => .int (nI (b6 b9)))) := (hag9 _ (by omega)).trans h6
  have h7 : F3 (m + 7) = some (.inr (0, 16, fun b9 => .int (nI (d7 b9)))) := (hag9 _ (by omega)).trans h7
  have h8 : F3 (m + 8) = some (.inr (0, 17, fun b9 => .int (nI (b8 b9)))) := (hag9 _ (by omega)).trans h8
  have h9 : F3 (m + 9) = some (.inr (1, 40, fun b9 => .int (nI (ln b9)))) := (hag9 _ (by omega)).trans h9
  have hi : F3 (m + 10) = some (.inr (1, 60, fun b9 => .int (nI (ip b9)))) := (hag9 _ (by omega)).trans hi
  have hcm : F3 (m + 11) = some (.inr (0, 183, fun b9 => .int (nI (cs b9)))) := (hag9 _ (by omega)).trans hcm
  have o0 : F3 (m) = some (.inl (10, [.int (nI ((thC (codN (aPo A a).1) 1 2 0 0))), .ref (m + 1), .int (nI ((if thC (codN (aPo A a).1) 1 2 0 0 = 0 then endC un else un))), .int (nI (sv)), .int rs1, .ref (m + 2), .ref (m + 3), .ref (m + 4), .ref (m + 5), .ref (m + 6), .int (nI (bm)), .ref (m + 7), .int (nI (dm)), .ref (m + 8), .ref (m + 9), .int (nI (lnn)), .ref (m + 10), .int (nI (pn)), .int (nI (he)), .int er, .int ep, .int fc, .ref (m + 11), .int (nI (cn))])) := j0
  have ga : F3 (m + 1) = some (.inr (0, 4730, fun b9 => .int (nI ((if thC (codN (aPo A a).1) 1 2 0 0 = 0 then endG g1 un else cpyR g1 10 0) b9)))) := j1
  have hag : ∀ a9 : Nat, (a9 < m ∨ m + 12 ≤ a9) → F3 a9 = F a9 := fun a9 q0 => (hag9 a9 (by omega)).trans (hag a9 q0)
  have hg_14 := hag9
  clear hag9
  refine hret _ _ _ _ _ _ _ d_MessageCoderModel_post_17 (by decide) (by decide) rfl ?_
  have hX9 : (codN (aPo A a).1 = 0 ∧ ¬ (aPo A a).1 < 0 ∧ thC (codN (aPo A a).1) 1 2 0 0 = 0) ∨ (codN (aPo A a).1 ≠ 0 ∧ (aPo A a).1 < 0 ∧ (aPo A a).2 = A ∧ thC (codN (aPo A a).1) 1 2 0 0 ≠ 0) := by
    rcases res_Po A a iA with e9 | e9 | e9
    · exact Or.inl ⟨codN_pos e9, e9, by rw [codN_pos e9]; rfl⟩
    · exact Or.inr ⟨by rw [e9]; show ¬ codN (-1) = 0; decide, by rw [e9]; show (-1 : Int32) < 0; decide, by rw [e9], by rw [e9]; show ¬ thC (codN (-1)) 1 2 0 0 = 0; decide⟩
    · exact Or.inr ⟨by rw [e9]; show ¬ codN (-2) = 0; decide, by rw [e9]; show (-2 : Int32) < 0; decide, by rw [e9], by rw [e9]; show ¬ thC (codN (-2)) 1 2 0 0 = 0; decide⟩
  have hX8 : (thC (codN (aPo A a).1) 1 2 0 0 = 0 ∧ ¬ (aPo A a).1 < 0) ∨ (thC (codN (aPo A a).1) 1 2 0 0 ≠ 0 ∧ (aPo A a).1 < 0 ∧ (aPo A a).2 = A) := hX9.elim (fun h => Or.inl ⟨h.2.2, h.2.1⟩) (fun h => Or.inr ⟨h.2.2.2, h.2.1, h.2.2.1⟩)
  obtain ⟨hR, hU⟩ := chg_R hI hg (inv_Po iA a hn) pr_7 po_7 hX8
  have hR : rMD (if thC (codN (aPo A a).1) 1 2 0 0 = 0 then endG g1 un else cpyR g1 10 0) (chgM (A, S, past, (pn, psg), (lnn, lsg), sv, pp, un, ep, fc) (aPo A a)) := hR
  have hU : (if thC (codN (aPo A a).1) 1 2 0 0 = 0 then endC un else un) = chU (aPo A a).1 un := hU
  have hV : (if thC (codN (aPo A a).1) 1 2 0 0 = 0 then rs1 else nI 0) = (if codN (aPo A a).1 = 0 then (aPo A a).1 else nI 0) := by
    rcases hX9 with h | h
    · rw [if_pos h.2.2, if_pos h.1]; exact pv_7 h.1
    · rw [if_neg h.2.2.2, if_neg h.1]
  rw [hU] at o0
  exact ⟨congrArg (fun q => some (Value.int q)) hV, rfl, ⟨_, _, _, _, _, _, _, _, _, _, _, _, _, _, _, _, _, o0, ga, h2, h3, h4, h5, h6, h7, h8, h9, hi, hcm, hR, hln, hip⟩, hag⟩

theorem d_MessageCoderModel_drop_0 : decode prog_14_method_39_code 0 = .ok (.aload_n 0, 1) := by decide +kernel
theorem d_MessageCoderModel_drop_1 : decode prog_14_method_39_code 1 = .ok (.invokevirtual 122, 3) := by decide +kernel
theorem d_MessageCoderModel_drop_4 : decode prog_14_method_39_code 4 = .ok (.aload_n 0, 1) := by decide +kernel
theorem d_MessageCoderModel_drop_5 : decode prog_14_method_39_code 5 = .ok (.aload_n 0, 1) := by decide +kernel
theorem d_MessageCoderModel_drop_6 : decode prog_14_method_39_code 6 = .ok (.iload_n 1, 1) := by decide +kernel
theorem d_MessageCoderModel_drop_7 : decode prog_14_method_39_code 7 = .ok (.invokevirtual 149, 3) := by decide +kernel
theorem d_MessageCoderModel_drop_10 : decode prog_14_method_39_code 10 = .ok (.iconst 0, 1) := by decide +kernel
theorem d_MessageCoderModel_drop_11 : decode prog_14_method_39_code 11 = .ok (.iconst 0, 1) := by decide +kernel
theorem d_MessageCoderModel_drop_12 : decode prog_14_method_39_code 12 = .ok (.iconst 1, 1) := by decide +kernel
theorem d_MessageCoderModel_drop_13 : decode prog_14_method_39_code 13 = .ok (.iconst 0, 1) := by decide +kernel
theorem d_MessageCoderModel_drop_14 : decode prog_14_method_39_code 14 = .ok (.invokevirtual 128, 3) := by decide +kernel
theorem d_MessageCoderModel_drop_17 : decode prog_14_method_39_code 17 = .ok (.ireturn, 1) := by decide +kernel
set_option maxHeartbeats 4000000 in
set_option maxRecDepth 20000 in
theorem c_MessageCoderModel_drop {P : xP} {F : xF} {z : Nat} {m : Nat} {th0 : Nat} {M : mcS} {a : Int32} (hD : xMD F (m) (th0) (M)) (hI : mInv M) : xM P xy_MessageCoderModel_drop [.ref m, .int a] F (z) 0 0 (fun r9 F9 z9 => r9 = some (.int (if codN (aDi M.1 a).1 = 0 then (aDi M.1 a).1 else nI 0)) ∧ z9 = z ∧ xMD F9 (m) (thC (codN (aDi M.1 a).1) 0 0 1 0) ((chgM M (aDi M.1 a))) ∧ (∀ a9 : Nat, (a9 < m ∨ m + 12 ≤ a9) → F9 a9 = F a9)) := by
  refine xM_i .int rfl (Nat.le_of_ble_eq_true rfl) (L0 := [some (.ref m), some (.int a)]) rfl rfl fun Θ hC hret => ?_
  have hag : ∀ a9 : Nat, (a9 < m ∨ m + 12 ≤ a9) → F a9 = F a9 := fun a9 _ => rfl
  obtain ⟨A, S, past, ⟨pn, psg⟩, ⟨lnn, lsg⟩, sv, pp, un, ep, fc⟩ := M
  obtain ⟨rs, er, bm, dm, he, cn, g, l2, v3, r4, w5, b6, d7, b8, ln, ip, cs, o0, ga, h2, h3, h4, h5, h6, h7, h8, h9, hi, hcm, hg, hln, hip⟩ := id hD
  obtain ⟨iA, iP, iS, hu8, hup, hs1, hty, hlz, hic, hlc⟩ := id hI
  have o0 : F (m) = some (.inl (10, [.int (nI (th0)), .ref (m + 1), .int (nI (un)), .int (nI (sv)), .int rs, .ref (m + 2), .ref (m + 3), .ref (m + 4), .ref (m + 5), .ref (m + 6), .int (nI (bm)), .ref (m + 7), .int (nI (dm)), .ref (m + 8), .ref (m + 9), .int (nI (lnn)), .ref (m + 10), .int (nI (pn)), .int (nI (he)), .int er, .int ep, .int fc, .ref (m + 11), .int (nI (cn))])) := o0
  have ga : F (m + 1) = some (.inr (0, 4730, fun b9 => .int (nI (g b9)))) := ga
  have h2 : F (m + 2) = some (.inr (0, 8, fun b9 => .int (nI (l2 b9)))) := h2
  have h3 : F (m + 3) = some (.inr (0, 8, fun b9 => .int (nI (v3 b9)))) := h3
  have h4 : F (m + 4) = some (.inr (0, 8, fun b9 => .int (nI (r4 b9)))) := h4
  have h5 : F (m + 5) = some (.inr (0, 8, fun b9 => .int (nI (w5 b9)))) := h5
  have h6 : F (m + 6) = some (.inr (0, 112, fun b9 => .int (nI (b6 b9)))) := h6
  have h7 : F (m + 7) = some (.inr (0, 16, fun b9 => .int (nI (d7 b9)))) := h7
  have h8 : F (m + 8) = some (.inr (0, 17, fun b9 => .int (nI (b8 b9)))) := h8
  have h9 : F (m + 9) = some (.inr (1, 40, fun b9 => .int (nI (ln b9)))) := h9
  have hi : F (m + 10) = some (.inr (1, 60, fun b9 => .int (nI (ip b9)))) := hi
  have hcm : F (m + 11) = some (.inr (0, 183, fun b9 => .int (nI (cs b9)))) := hcm
  have hln : ∀ j, j < lnn → ln j = lsg j := hln
  have hip : ∀ j, j < pn → ip j = psg j := hip
  have iA : aInv A := iA
  have hu8 : un ≤ 8 := hu8
  have hup : un ≤ pp := hup
  have hs1 : sv ≤ 1 := hs1
  have hty : pn ≤ 60 := hty
  have hlz : lnn ≤ 32 := hlz
  have hr : rRow g A := hg.1
  refine x_aload_n hC d_MessageCoderModel_drop_0 rfl rfl ?_
  refine x_callV hC kv_MessageCoderModel_122 (c_MessageCoderModel_begins (o0 := o0) (ga := ga)) o0 rfl rfl (by decide) rfl rfl rfl (Nat.le_of_ble_eq_true rfl) (by decide) d_MessageCoderModel_drop_1 (fun r9 F9 z9 hp9 => ?_)
  obtain ⟨rfl, h9c, j0, j1, hag9⟩ := hp9
  rw [h9c]
  clear h9c z9
  generalize F9 = F1 at *
  have h2 : F1 (m + 2) = some (.inr (0, 8, fun b9 => .int (nI (l2 b9)))) := (hag9 _ (by omega)).trans h2
  have h3 : F1 (m + 3) = some (.inr (0, 8, fun b9 => .int (nI (v3 b9)))) := (hag9 _ (by omega)).trans h3
  have h4 : F1 (m + 4) = some (.inr (0, 8, fun b9 => .int (nI (r4 b9)))) := (hag9 _ (by omega)).trans h4
  have h5 : F1 (m + 5) = some (.inr (0, 8, fun b9 => .int (nI (w5 b9)))) := (hag9 _ (by omega)).trans h5
  have h6 : F1 (m + 6) = some (.inr (0, 112, fun b9 => .int (nI (b6 b9)))) := (hag9 _ (by omega)).trans h6
  have h7 : F1 (m + 7) = some (.inr (0, 16, fun b9 => .int (nI (d7 b9)))) := (hag9 _ (by omega)).trans h7
  have h8 : F1 (m + 8) = some (.inr (0, 17, fun b9 => .int (nI (b8 b9)))) := (hag9 _ (by omega)).trans h8
  have h9 : F1 (m + 9) = some (.inr (1, 40, fun b9 => .int (nI (ln b9)))) := (hag9 _ (by omega)).trans h9
  have hi : F1 (m + 10) = some (.inr (1, 60, fun b9 => .int (nI (ip b9)))) := (hag9 _ (by omega)).trans hi
  have hcm : F1 (m + 11) = some (.inr (0, 183, fun b9 => .int (nI (cs b9)))) := (hag9 _ (by omega)).trans hcm
  have o0 : F1 (m) = some (.inl (10, [.int (nI (th0)), .ref (m + 1), .int (nI (un)), .int (nI (sv)), .int rs, .ref (m + 2), .ref (m + 3), .ref (m + 4), .ref (m + 5), .ref (m + 6), .int (nI (bm)), .ref (m + 7), .int (nI (dm)), .ref (m + 8), .ref (m + 9), .int (nI (lnn)), .ref (m + 10), .int (nI (pn)), .int (nI (he)), .int er, .int ep, .int fc, .ref (m + 11), .int (nI (cn))])) := j0
  have ga : F1 (m + 1) = some (.inr (0, 4730, fun b9 => .int (nI ((cpyR g 0 10) b9)))) := j1
  have hag : ∀ a9 : Nat, (a9 < m ∨ m + 12 ≤ a9) → F1 a9 = F a9 := fun a9 q0 => (hag9 a9 (by omega)).trans (hag a9 q0)
  have hg_1 := hag9
  clear hag9
  refine x_aload_n hC d_MessageCoderModel_drop_4 rfl rfl ?_
  refine x_aload_n hC d_MessageCoderModel_drop_5 rfl rfl ?_
  refine x_iload_n hC d_MessageCoderModel_drop_6 rfl rfl ?_
  have hr1 : rRow (cpyR g 0 10) A := rRow_ext iA (fun q hq => cpyR_out (by omega)) hr
  refine x_callV hC kv_MessageCoderModel_149 (c_MessageCoderModel_drops (o0 := o0) (ga := ga) (hr := hr1) (hA := iA) (A := A)) o0 rfl rfl (by decide) rfl rfl rfl (Nat.le_of_ble_eq_true rfl) (by decide) d_MessageCoderModel_drop_7 (fun r9 F9 z9 hp9 => ?_)
  obtain ⟨g1, rs1, rfl, h9c, j0, j1, pr_7, po_7, pv_7, hag9⟩ := hp9
  rw [h9c]
  clear h9c z9
  generalize F9 = F2 at *
  have h2 : F2 (m + 2) = some (.inr (0, 8, fun b9 => .int (nI (l2 b9)))) := (hag9 _ (by omega)).trans h2
  have h3 : F2 (m + 3) = some (.inr (0, 8, fun b9 => .int (nI (v3 b9)))) := (hag9 _ (by omega)).trans h3
  have h4 : F2 (m + 4) = some (.inr (0, 8, fun b9 => .int (nI (r4 b9)))) := (hag9 _ (by omega)).trans h4
  have h5 : F2 (m + 5) = some (.inr (0, 8, fun b9 => .int (nI (w5 b9)))) := (hag9 _ (by omega)).trans h5
  have h6 : F2 (m + 6) = some (.inr (0, 112, fun b9 => .int (nI (b6 b9)))) := (hag9 _ (by omega)).trans h6
  have h7 : F2 (m + 7) = some (.inr (0, 16, fun b9 => .int (nI (d7 b9)))) := (hag9 _ (by omega)).trans h7
  have h8 : F2 (m + 8) = some (.inr (0, 17, fun b9 => .int (nI (b8 b9)))) := (hag9 _ (by omega)).trans h8
  have h9 : F2 (m + 9) = some (.inr (1, 40, fun b9 => .int (nI (ln b9)))) := (hag9 _ (by omega)).trans h9
  have hi : F2 (m + 10) = some (.inr (1, 60, fun b9 => .int (nI (ip b9)))) := (hag9 _ (by omega)).trans hi
  have hcm : F2 (m + 11) = some (.inr (0, 183, fun b9 => .int (nI (cs b9)))) := (hag9 _ (by omega)).trans hcm
  have o0 : F2 (m) = some (.inl (10, [.int (nI (th0)), .ref (m + 1), .int (nI (un)), .int (nI (sv)), .int rs1, .ref (m + 2), .ref (m + 3), .ref (m + 4), .ref (m + 5), .ref (m + 6), .int (nI (bm)), .ref (m + 7), .int (nI (dm)), .ref (m + 8), .ref (m + 9), .int (nI (lnn)), .ref (m + 10), .int (nI (pn)), .int (nI (he)), .int er, .int ep, .int fc, .ref (m + 11), .int (nI (cn))])) := j0
  have ga : F2 (m + 1) = some (.inr (0, 4730, fun b9 => .int (nI (g1 b9)))) := j1
  have hag : ∀ a9 : Nat, (a9 < m ∨ m + 12 ≤ a9) → F2 a9 = F a9 := fun a9 q0 => (hag9 a9 (by omega)).trans (hag a9 q0)
  have hg_7 := hag9
  clear hag9
  refine x_iconst hC d_MessageCoderModel_drop_10 (v := nI 0) (by decide) ?_
  refine x_iconst hC d_MessageCoderModel_drop_11 (v := nI 0) (by decide) ?_
  refine x_iconst hC d_MessageCoderModel_drop_12 (v := nI 1) (by decide) ?_
  refine x_iconst hC d_MessageCoderModel_drop_13 (v := nI 0) (by decide) ?_
  refine x_callV hC kv_MessageCoderModel_128 (c_MessageCoderModel_ends (o0 := o0) (ga := ga) (hy := codN_4 _) (h1 := by omega) (h2 := by omega) (h3 := by omega) (h4 := by omega) (hch := by omega)) o0 rfl rfl (by decide) rfl rfl rfl (Nat.le_of_ble_eq_true rfl) (by decide) d_MessageCoderModel_drop_14 (fun r9 F9 z9 hp9 => ?_)
  obtain ⟨rfl, h9c, j0, j1, hag9⟩ := hp9
  rw [h9c]
  clear h9c z9
  generalize F9 = F3 at *
  have h2 : F3 (m + 2) = some (.inr (0, 8, fun b9 => .int (nI (l2 b9)))) := (hag9 _ (by omega)).trans h2
  have h3 : F3 (m + 3) = some (.inr (0, 8, fun b9 => .int (nI (v3 b9)))) := (hag9 _ (by omega)).trans h3
  have h4 : F3 (m + 4) = some (.inr (0, 8, fun b9 => .int (nI (r4 b9)))) := (hag9 _ (by omega)).trans h4
  have h5 : F3 (m + 5) = some (.inr (0, 8, fun b9 => .int (nI (w5 b9)))) := (hag9 _ (by omega)).trans h5
  have h6 : F3 (m + 6) = some (.inr (0, 112, fun b9 => .int (nI (b6 b9)))) := (hag9 _ (by omega)).trans h6
  have h7 : F3 (m + 7) = some (.inr (0, 16, fun b9 => .int (nI (d7 b9)))) := (hag9 _ (by omega)).trans h7
  have h8 : F3 (m + 8) = some (.inr (0, 17, fun b9 => .int (nI (b8 b9)))) := (hag9 _ (by omega)).trans h8
  have h9 : F3 (m + 9) = some (.inr (1, 40, fun b9 => .int (nI (ln b9)))) := (hag9 _ (by omega)).trans h9
  have hi : F3 (m + 10) = some (.inr (1, 60, fun b9 => .int (nI (ip b9)))) := (hag9 _ (by omega)).trans hi
  have hcm : F3 (m + 11) = some (.inr (0, 183, fun b9 => .int (nI (cs b9)))) := (hag9 _ (by omega)).trans hcm
  have o0 : F3 (m) = some (.inl (10, [.int (nI ((thC (codN (aDi A a).1) 0 0 1 0))), .ref (m + 1), .int (nI ((if thC (codN (aDi A a).1) 0 0 1 0 = 0 then endC un else un))), .int (nI (sv)), .int rs1, .ref (m + 2), .ref (m + 3), .ref (m + 4), .ref (m + 5), .ref (m + 6), .int (nI (bm)), .ref (m + 7), .int (nI (dm)), .ref (m + 8), .ref (m + 9), .int (nI (lnn)), .ref (m + 10), .int (nI (pn)), .int (nI (he)), .int er, .int ep, .int fc, .ref (m + 11), .int (nI (cn))])) := j0
  have ga : F3 (m + 1) = some (.inr (0, 4730, fun b9 => .int (nI ((if thC (codN (aDi A a).1) 0 0 1 0 = 0 then endG g1 un else cpyR g1 10 0) b9)))) := j1
  have hag : ∀ a9 : Nat, (a9 < m ∨ m + 12 ≤ a9) → F3 a9 = F a9 := fun a9 q0 => (hag9 a9 (by omega)).trans (hag a9 q0)
  have hg_14 := hag9
  clear hag9
  refine hret _ _ _ _ _ _ _ d_MessageCoderModel_drop_17 (by decide) (by decide) rfl ?_
  have hX9 : (codN (aDi A a).1 = 0 ∧ ¬ (aDi A a).1 < 0 ∧ thC (codN (aDi A a).1) 0 0 1 0 = 0) ∨ (codN (aDi A a).1 ≠ 0 ∧ (aDi A a).1 < 0 ∧ (aDi A a).2 = A ∧ thC (codN (aDi A a).1) 0 0 1 0 ≠ 0) := by
    rcases res_Di A a iA with e9 | e9
    · exact Or.inl ⟨codN_pos e9, e9, by rw [codN_pos e9]; rfl⟩
    · exact Or.inr ⟨by rw [e9]; show ¬ codN (-3) = 0; decide, by rw [e9]; show (-3 : Int32) < 0; decide, by rw [e9], by rw [e9]; show ¬ thC (codN (-3)) 0 0 1 0 = 0; decide⟩
  have hX8 : (thC (codN (aDi A a).1) 0 0 1 0 = 0 ∧ ¬ (aDi A a).1 < 0) ∨ (thC (codN (aDi A a).1) 0 0 1 0 ≠ 0 ∧ (aDi A a).1 < 0 ∧ (aDi A a).2 = A) := hX9.elim (fun h => Or.inl ⟨h.2.2, h.2.1⟩) (fun h => Or.inr ⟨h.2.2.2, h.2.1, h.2.2.1⟩)
  obtain ⟨hR, hU⟩ := chg_R hI hg (inv_Di iA a) pr_7 po_7 hX8
  have hR : rMD (if thC (codN (aDi A a).1) 0 0 1 0 = 0 then endG g1 un else cpyR g1 10 0) (chgM (A, S, past, (pn, psg), (lnn, lsg), sv, pp, un, ep, fc) (aDi A a)) := hR
  have hU : (if thC (codN (aDi A a).1) 0 0 1 0 = 0 then endC un else un) = chU (aDi A a).1 un := hU
  have hV : (if thC (codN (aDi A a).1) 0 0 1 0 = 0 then rs1 else nI 0) = (if codN (aDi A a).1 = 0 then (aDi A a).1 else nI 0) := by
    rcases hX9 with h | h
    · rw [if_pos h.2.2, if_pos h.1]; exact pv_7 h.1
    · rw [if_neg h.2.2.2, if_neg h.1]
  rw [hU] at o0
  exact ⟨congrArg (fun q => some (Value.int q)) hV, rfl, ⟨_, _, _, _, _, _, _, _, _, _, _, _, _, _, _, _, _, o0, ga, h2, h3, h4, h5, h6, h7, h8, h9, hi, hcm, hR, hln, hip⟩, hag⟩

theorem d_MessageCoderModel_setPriority_0 : decode prog_14_method_41_code 0 = .ok (.aload_n 0, 1) := by decide +kernel
theorem d_MessageCoderModel_setPriority_1 : decode prog_14_method_41_code 1 = .ok (.invokevirtual 122, 3) := by decide +kernel
theorem d_MessageCoderModel_setPriority_4 : decode prog_14_method_41_code 4 = .ok (.aload_n 0, 1) := by decide +kernel
theorem d_MessageCoderModel_setPriority_5 : decode prog_14_method_41_code 5 = .ok (.aload_n 0, 1) := by decide +kernel
theorem d_MessageCoderModel_setPriority_6 : decode prog_14_method_41_code 6 = .ok (.iload_n 1, 1) := by decide +kernel
theorem d_MessageCoderModel_setPriority_7 : decode prog_14_method_41_code 7 = .ok (.iload_n 2, 1) := by decide +kernel
theorem d_MessageCoderModel_setPriority_8 : decode prog_14_method_41_code 8 = .ok (.invokevirtual 152, 3) := by decide +kernel
theorem d_MessageCoderModel_setPriority_11 : decode prog_14_method_41_code 11 = .ok (.iconst 2, 1) := by decide +kernel
theorem d_MessageCoderModel_setPriority_12 : decode prog_14_method_41_code 12 = .ok (.iconst 0, 1) := by decide +kernel
theorem d_MessageCoderModel_setPriority_13 : decode prog_14_method_41_code 13 = .ok (.iconst 1, 1) := by decide +kernel
theorem d_MessageCoderModel_setPriority_14 : decode prog_14_method_41_code 14 = .ok (.iconst 0, 1) := by decide +kernel
theorem d_MessageCoderModel_setPriority_15 : decode prog_14_method_41_code 15 = .ok (.invokevirtual 128, 3) := by decide +kernel
theorem d_MessageCoderModel_setPriority_18 : decode prog_14_method_41_code 18 = .ok (.ireturn, 1) := by decide +kernel
set_option maxHeartbeats 4000000 in
set_option maxRecDepth 20000 in
theorem c_MessageCoderModel_setPriority {P : xP} {F : xF} {z : Nat} {m : Nat} {th0 : Nat} {M : mcS} {a : Int32} {x : Int32} (hD : xMD F (m) (th0) (M)) (hI : mInv M) : xM P xy_MessageCoderModel_setPriority [.ref m, .int a, .int x] F (z) 0 0 (fun r9 F9 z9 => r9 = some (.int (if codN (aHu M.1 a x).1 = 0 then (aHu M.1 a x).1 else nI 0)) ∧ z9 = z ∧ xMD F9 (m) (thC (codN (aHu M.1 a x).1) 2 0 1 0) ((chgM M (aHu M.1 a x))) ∧ (∀ a9 : Nat, (a9 < m ∨ m + 12 ≤ a9) → F9 a9 = F a9)) := by
  refine xM_i .int rfl (Nat.le_of_ble_eq_true rfl) (L0 := [some (.ref m), some (.int a), some (.int x)]) rfl rfl fun Θ hC hret => ?_
  have hag : ∀ a9 : Nat, (a9 < m ∨ m + 12 ≤ a9) → F a9 = F a9 := fun a9 _ => rfl
  obtain ⟨A, S, past, ⟨pn, psg⟩, ⟨lnn, lsg⟩, sv, pp, un, ep, fc⟩ := M
  obtain ⟨rs, er, bm, dm, he, cn, g, l2, v3, r4, w5, b6, d7, b8, ln, ip, cs, o0, ga, h2, h3, h4, h5, h6, h7, h8, h9, hi, hcm, hg, hln, hip⟩ := id hD
  obtain ⟨iA, iP, iS, hu8, hup, hs1, hty, hlz, hic, hlc⟩ := id hI
  have o0 : F (m) = some (.inl (10, [.int (nI (th0)), .ref (m + 1), .int (nI (un)), .int (nI (sv)), .int rs, .ref (m + 2), .ref (m + 3), .ref (m + 4), .ref (m + 5), .ref (m + 6), .int (nI (bm)), .ref (m + 7), .int (nI (dm)), .ref (m + 8), .ref (m + 9), .int (nI (lnn)), .ref (m + 10), .int (nI (pn)), .int (nI (he)), .int er, .int ep, .int fc, .ref (m + 11), .int (nI (cn))])) := o0
  have ga : F (m + 1) = some (.inr (0, 4730, fun b9 => .int (nI (g b9)))) := ga
  have h2 : F (m + 2) = some (.inr (0, 8, fun b9 => .int (nI (l2 b9)))) := h2
  have h3 : F (m + 3) = some (.inr (0, 8, fun b9 => .int (nI (v3 b9)))) := h3
  have h4 : F (m + 4) = some (.inr (0, 8, fun b9 => .int (nI (r4 b9)))) := h4
  have h5 : F (m + 5) = some (.inr (0, 8, fun b9 => .int (nI (w5 b9)))) := h5
  have h6 : F (m + 6) = some (.inr (0, 112, fun b9 => .int (nI (b6 b9)))) := h6
  have h7 : F (m + 7) = some (.inr (0, 16, fun b9 => .int (nI (d7 b9)))) := h7
  have h8 : F (m + 8) = some (.inr (0, 17, fun b9 => .int (nI (b8 b9)))) := h8
  have h9 : F (m + 9) = some (.inr (1, 40, fun b9 => .int (nI (ln b9)))) := h9
  have hi : F (m + 10) = some (.inr (1, 60, fun b9 => .int (nI (ip b9)))) := hi
  have hcm : F (m + 11) = some (.inr (0, 183, fun b9 => .int (nI (cs b9)))) := hcm
  have hln : ∀ j, j < lnn → ln j = lsg j := hln
  have hip : ∀ j, j < pn → ip j = psg j := hip
  have iA : aInv A := iA
  have hu8 : un ≤ 8 := hu8
  have hup : un ≤ pp := hup
  have hs1 : sv ≤ 1 := hs1
  have hty : pn ≤ 60 := hty
  have hlz : lnn ≤ 32 := hlz
  have hr : rRow g A := hg.1
  refine x_aload_n hC d_MessageCoderModel_setPriority_0 rfl rfl ?_
  refine x_callV hC kv_MessageCoderModel_122 (c_MessageCoderModel_begins (o0 := o0) (ga := ga)) o0 rfl rfl (by decide) rfl rfl rfl (Nat.le_of_ble_eq_true rfl) (by decide) d_MessageCoderModel_setPriority_1 (fun r9 F9 z9 hp9 => ?_)
  obtain ⟨rfl, h9c, j0, j1, hag9⟩ := hp9
  rw [h9c]
  clear h9c z9
  generalize F9 = F1 at *
  have h2 : F1 (m + 2) = some (.inr (0, 8, fun b9 => .int (nI (l2 b9)))) := (hag9 _ (by omega)).trans h2
  have h3 : F1 (m + 3) = some (.inr (0, 8, fun b9 => .int (nI (v3 b9)))) := (hag9 _ (by omega)).trans h3
  have h4 : F1 (m + 4) = some (.inr (0, 8, fun b9 => .int (nI (r4 b9)))) := (hag9 _ (by omega)).trans h4
  have h5 : F1 (m + 5) = some (.inr (0, 8, fun b9 => .int (nI (w5 b9)))) := (hag9 _ (by omega)).trans h5
  have h6 : F1 (m + 6) = some (.inr (0, 112, fun b9 => .int (nI (b6 b9)))) := (hag9 _ (by omega)).trans h6
  have h7 : F1 (m + 7) = some (.inr (0, 16, fun b9 => .int (nI (d7 b9)))) := (hag9 _ (by omega)).trans h7
  have h8 : F1 (m + 8) = some (.inr (0, 17, fun b9 => .int (nI (b8 b9)))) := (hag9 _ (by omega)).trans h8
  have h9 : F1 (m + 9) = some (.inr (1, 40, fun b9 => .int (nI (ln b9)))) := (hag9 _ (by omega)).trans h9
  have hi : F1 (m + 10) = some (.inr (1, 60, fun b9 => .int (nI (ip b9)))) := (hag9 _ (by omega)).trans hi
  have hcm : F1 (m + 11) = some (.inr (0, 183, fun b9 => .int (nI (cs b9)))) := (hag9 _ (by omega)).trans hcm
  have o0 : F1 (m) = some (.inl (10, [.int (nI (th0)), .ref (m + 1), .int (nI (un)), .int (nI (sv)), .int rs, .ref (m + 2), .ref (m + 3), .ref (m + 4), .ref (m + 5), .ref (m + 6), .int (nI (bm)), .ref (m + 7), .int (nI (dm)), .ref (m + 8), .ref (m + 9), .int (nI (lnn)), .ref (m + 10), .int (nI (pn)), .int (nI (he)), .int er, .int ep, .int fc, .ref (m + 11), .int (nI (cn))])) := j0
  have ga : F1 (m + 1) = some (.inr (0, 4730, fun b9 => .int (nI ((cpyR g 0 10) b9)))) := j1
  have hag : ∀ a9 : Nat, (a9 < m ∨ m + 12 ≤ a9) → F1 a9 = F a9 := fun a9 q0 => (hag9 a9 (by omega)).trans (hag a9 q0)
  have hg_1 := hag9
  clear hag9
  refine x_aload_n hC d_MessageCoderModel_setPriority_4 rfl rfl ?_
  refine x_aload_n hC d_MessageCoderModel_setPriority_5 rfl rfl ?_
  refine x_iload_n hC d_MessageCoderModel_setPriority_6 rfl rfl ?_
  refine x_iload_n hC d_MessageCoderModel_setPriority_7 rfl rfl ?_
  have hr1 : rRow (cpyR g 0 10) A := rRow_ext iA (fun q hq => cpyR_out (by omega)) hr
  refine x_callV hC kv_MessageCoderModel_152 (c_MessageCoderModel_hurries (o0 := o0) (ga := ga) (hr := hr1) (hA := iA) (A := A)) o0 rfl rfl (by decide) rfl rfl rfl (Nat.le_of_ble_eq_true rfl) (by decide) d_MessageCoderModel_setPriority_8 (fun r9 F9 z9 hp9 => ?_)
  obtain ⟨g1, rs1, rfl, h9c, j0, j1, pr_8, po_8, pv_8, hag9⟩ := hp9
  rw [h9c]
  clear h9c z9
  generalize F9 = F2 at *
  have h2 : F2 (m + 2) = some (.inr (0, 8, fun b9 => .int (nI (l2 b9)))) := (hag9 _ (by omega)).trans h2
  have h3 : F2 (m + 3) = some (.inr (0, 8, fun b9 => .int (nI (v3 b9)))) := (hag9 _ (by omega)).trans h3
  have h4 : F2 (m + 4) = some (.inr (0, 8, fun b9 => .int (nI (r4 b9)))) := (hag9 _ (by omega)).trans h4
  have h5 : F2 (m + 5) = some (.inr (0, 8, fun b9 => .int (nI (w5 b9)))) := (hag9 _ (by omega)).trans h5
  have h6 : F2 (m + 6) = some (.inr (0, 112, fun b9 => .int (nI (b6 b9)))) := (hag9 _ (by omega)).trans h6
  have h7 : F2 (m + 7) = some (.inr (0, 16, fun b9 => .int (nI (d7 b9)))) := (hag9 _ (by omega)).trans h7
  have h8 : F2 (m + 8) = some (.inr (0, 17, fun b9 => .int (nI (b8 b9)))) := (hag9 _ (by omega)).trans h8
  have h9 : F2 (m + 9) = some (.inr (1, 40, fun b9 => .int (nI (ln b9)))) := (hag9 _ (by omega)).trans h9
  have hi : F2 (m + 10) = some (.inr (1, 60, fun b9 => .int (nI (ip b9)))) := (hag9 _ (by omega)).trans hi
  have hcm : F2 (m + 11) = some (.inr (0, 183, fun b9 => .int (nI (cs b9)))) := (hag9 _ (by omega)).trans hcm
  have o0 : F2 (m) = some (.inl (10, [.int (nI (th0)), .ref (m + 1), .int (nI (un)), .int (nI (sv)), .int rs1, .ref (m + 2), .ref (m + 3), .ref (m + 4), .ref (m + 5), .ref (m + 6), .int (nI (bm)), .ref (m + 7), .int (nI (dm)), .ref (m + 8), .ref (m + 9), .int (nI (lnn)), .ref (m + 10), .int (nI (pn)), .int (nI (he)), .int er, .int ep, .int fc, .ref (m + 11), .int (nI (cn))])) := j0
  have ga : F2 (m + 1) = some (.inr (0, 4730, fun b9 => .int (nI (g1 b9)))) := j1
  have hag : ∀ a9 : Nat, (a9 < m ∨ m + 12 ≤ a9) → F2 a9 = F a9 := fun a9 q0 => (hag9 a9 (by omega)).trans (hag a9 q0)
  have hg_8 := hag9
  clear hag9
  refine x_iconst hC d_MessageCoderModel_setPriority_11 (v := nI 2) (by decide) ?_
  refine x_iconst hC d_MessageCoderModel_setPriority_12 (v := nI 0) (by decide) ?_
  refine x_iconst hC d_MessageCoderModel_setPriority_13 (v := nI 1) (by decide) ?_
  refine x_iconst hC d_MessageCoderModel_setPriority_14 (v := nI 0) (by decide) ?_
  refine x_callV hC kv_MessageCoderModel_128 (c_MessageCoderModel_ends (o0 := o0) (ga := ga) (hy := codN_4 _) (h1 := by omega) (h2 := by omega) (h3 := by omega) (h4 := by omega) (hch := by omega)) o0 rfl rfl (by decide) rfl rfl rfl (Nat.le_of_ble_eq_true rfl) (by decide) d_MessageCoderModel_setPriority_15 (fun r9 F9 z9 hp9 => ?_)
  obtain ⟨rfl, h9c, j0, j1, hag9⟩ := hp9
  rw [h9c]
  clear h9c z9
  generalize F9 = F3 at *
  have h2 : F3 (m + 2) = some (.inr (0, 8, fun b9 => .int (nI (l2 b9)))) := (hag9 _ (by omega)).trans h2
  have h3 : F3 (m + 3) = some (.inr (0, 8, fun b9 => .int (nI (v3 b9)))) := (hag9 _ (by omega)).trans h3
  have h4 : F3 (m + 4) = some (.inr (0, 8, fun b9 => .int (nI (r4 b9)))) := (hag9 _ (by omega)).trans h4
  have h5 : F3 (m + 5) = some (.inr (0, 8, fun b9 => .int (nI (w5 b9)))) := (hag9 _ (by omega)).trans h5
  have h6 : F3 (m + 6) = some (.inr (0, 112, fun b9 => .int (nI (b6 b9)))) := (hag9 _ (by omega)).trans h6
  have h7 : F3 (m + 7) = some (.inr (0, 16, fun b9 => .int (nI (d7 b9)))) := (hag9 _ (by omega)).trans h7
  have h8 : F3 (m + 8) = some (.inr (0, 17, fun b9 => .int (nI (b8 b9)))) := (hag9 _ (by omega)).trans h8
  have h9 : F3 (m + 9) = some (.inr (1, 40, fun b9 => .int (nI (ln b9)))) := (hag9 _ (by omega)).trans h9
  have hi : F3 (m + 10) = some (.inr (1, 60, fun b9 => .int (nI (ip b9)))) := (hag9 _ (by omega)).trans hi
  have hcm : F3 (m + 11) = some (.inr (0, 183, fun b9 => .int (nI (cs b9)))) := (hag9 _ (by omega)).trans hcm
  have o0 : F3 (m) = some (.inl (10, [.int (nI ((thC (codN (aHu A a x).1) 2 0 1 0))), .ref (m + 1), .int (nI ((if thC (codN (aHu A a x).1) 2 0 1 0 = 0 then endC un else un))), .int (nI (sv)), .int rs1, .ref (m + 2), .ref (m + 3), .ref (m + 4), .ref (m + 5), .ref (m + 6), .int (nI (bm)), .ref (m + 7), .int (nI (dm)), .ref (m + 8), .ref (m + 9), .int (nI (lnn)), .ref (m + 10), .int (nI (pn)), .int (nI (he)), .int er, .int ep, .int fc, .ref (m + 11), .int (nI (cn))])) := j0
  have ga : F3 (m + 1) = some (.inr (0, 4730, fun b9 => .int (nI ((if thC (codN (aHu A a x).1) 2 0 1 0 = 0 then endG g1 un else cpyR g1 10 0) b9)))) := j1
  have hag : ∀ a9 : Nat, (a9 < m ∨ m + 12 ≤ a9) → F3 a9 = F a9 := fun a9 q0 => (hag9 a9 (by omega)).trans (hag a9 q0)
  have hg_15 := hag9
  clear hag9
  refine hret _ _ _ _ _ _ _ d_MessageCoderModel_setPriority_18 (by decide) (by decide) rfl ?_
  have hX9 : (codN (aHu A a x).1 = 0 ∧ ¬ (aHu A a x).1 < 0 ∧ thC (codN (aHu A a x).1) 2 0 1 0 = 0) ∨ (codN (aHu A a x).1 ≠ 0 ∧ (aHu A a x).1 < 0 ∧ (aHu A a x).2 = A ∧ thC (codN (aHu A a x).1) 2 0 1 0 ≠ 0) := by
    rcases res_Hu A a x iA with e9 | e9 | e9
    · exact Or.inl ⟨codN_pos e9, e9, by rw [codN_pos e9]; rfl⟩
    · exact Or.inr ⟨by rw [e9]; show ¬ codN (-1) = 0; decide, by rw [e9]; show (-1 : Int32) < 0; decide, by rw [e9], by rw [e9]; show ¬ thC (codN (-1)) 2 0 1 0 = 0; decide⟩
    · exact Or.inr ⟨by rw [e9]; show ¬ codN (-3) = 0; decide, by rw [e9]; show (-3 : Int32) < 0; decide, by rw [e9], by rw [e9]; show ¬ thC (codN (-3)) 2 0 1 0 = 0; decide⟩
  have hX8 : (thC (codN (aHu A a x).1) 2 0 1 0 = 0 ∧ ¬ (aHu A a x).1 < 0) ∨ (thC (codN (aHu A a x).1) 2 0 1 0 ≠ 0 ∧ (aHu A a x).1 < 0 ∧ (aHu A a x).2 = A) := hX9.elim (fun h => Or.inl ⟨h.2.2, h.2.1⟩) (fun h => Or.inr ⟨h.2.2.2, h.2.1, h.2.2.1⟩)
  obtain ⟨hR, hU⟩ := chg_R hI hg (inv_Hu iA a x) pr_8 po_8 hX8
  have hR : rMD (if thC (codN (aHu A a x).1) 2 0 1 0 = 0 then endG g1 un else cpyR g1 10 0) (chgM (A, S, past, (pn, psg), (lnn, lsg), sv, pp, un, ep, fc) (aHu A a x)) := hR
  have hU : (if thC (codN (aHu A a x).1) 2 0 1 0 = 0 then endC un else un) = chU (aHu A a x).1 un := hU
  have hV : (if thC (codN (aHu A a x).1) 2 0 1 0 = 0 then rs1 else nI 0) = (if codN (aHu A a x).1 = 0 then (aHu A a x).1 else nI 0) := by
    rcases hX9 with h | h
    · rw [if_pos h.2.2, if_pos h.1]; exact pv_8 h.1
    · rw [if_neg h.2.2.2, if_neg h.1]
  rw [hU] at o0
  exact ⟨congrArg (fun q => some (Value.int q)) hV, rfl, ⟨_, _, _, _, _, _, _, _, _, _, _, _, _, _, _, _, _, o0, ga, h2, h3, h4, h5, h6, h7, h8, h9, hi, hcm, hR, hln, hip⟩, hag⟩

theorem d_MessageCoderModel_learn_0 : decode prog_14_method_44_code 0 = .ok (.aload_n 0, 1) := by decide +kernel
theorem d_MessageCoderModel_learn_1 : decode prog_14_method_44_code 1 = .ok (.invokevirtual 122, 3) := by decide +kernel
theorem d_MessageCoderModel_learn_4 : decode prog_14_method_44_code 4 = .ok (.aload_n 0, 1) := by decide +kernel
theorem d_MessageCoderModel_learn_5 : decode prog_14_method_44_code 5 = .ok (.aload_n 0, 1) := by decide +kernel
theorem d_MessageCoderModel_learn_6 : decode prog_14_method_44_code 6 = .ok (.iload_n 1, 1) := by decide +kernel
theorem d_MessageCoderModel_learn_7 : decode prog_14_method_44_code 7 = .ok (.invokevirtual 161, 3) := by decide +kernel
theorem d_MessageCoderModel_learn_10 : decode prog_14_method_44_code 10 = .ok (.iconst 0, 1) := by decide +kernel
theorem d_MessageCoderModel_learn_11 : decode prog_14_method_44_code 11 = .ok (.iconst 0, 1) := by decide +kernel
theorem d_MessageCoderModel_learn_12 : decode prog_14_method_44_code 12 = .ok (.iconst 1, 1) := by decide +kernel
theorem d_MessageCoderModel_learn_13 : decode prog_14_method_44_code 13 = .ok (.iconst 0, 1) := by decide +kernel
theorem d_MessageCoderModel_learn_14 : decode prog_14_method_44_code 14 = .ok (.invokevirtual 128, 3) := by decide +kernel
theorem d_MessageCoderModel_learn_17 : decode prog_14_method_44_code 17 = .ok (.ireturn, 1) := by decide +kernel
set_option maxHeartbeats 4000000 in
set_option maxRecDepth 20000 in
theorem c_MessageCoderModel_learn {P : xP} {F : xF} {z : Nat} {m : Nat} {th0 : Nat} {M : mcS} {a : Int32} (hD : xMD F (m) (th0) (M)) (hI : mInv M) : xM P xy_MessageCoderModel_learn [.ref m, .int a] F (z) 0 0 (fun r9 F9 z9 => r9 = some (.int (if codN (aLe M.1 a).1 = 0 then (aLe M.1 a).1 else nI 0)) ∧ z9 = z ∧ xMD F9 (m) (thC (codN (aLe M.1 a).1) 0 0 1 0) ((chgM M (aLe M.1 a))) ∧ (∀ a9 : Nat, (a9 < m ∨ m + 12 ≤ a9) → F9 a9 = F a9)) := by
  refine xM_i .int rfl (Nat.le_of_ble_eq_true rfl) (L0 := [some (.ref m), some (.int a)]) rfl rfl fun Θ hC hret => ?_
  have hag : ∀ a9 : Nat, (a9 < m ∨ m + 12 ≤ a9) → F a9 = F a9 := fun a9 _ => rfl
  obtain ⟨A, S, past, ⟨pn, psg⟩, ⟨lnn, lsg⟩, sv, pp, un, ep, fc⟩ := M
  obtain ⟨rs, er, bm, dm, he, cn, g, l2, v3, r4, w5, b6, d7, b8, ln, ip, cs, o0, ga, h2, h3, h4, h5, h6, h7, h8, h9, hi, hcm, hg, hln, hip⟩ := id hD
  obtain ⟨iA, iP, iS, hu8, hup, hs1, hty, hlz, hic, hlc⟩ := id hI
  have o0 : F (m) = some (.inl (10, [.int (nI (th0)), .ref (m + 1), .int (nI (un)), .int (nI (sv)), .int rs, .ref (m + 2), .ref (m + 3), .ref (m + 4), .ref (m + 5), .ref (m + 6), .int (nI (bm)), .ref (m + 7), .int (nI (dm)), .ref (m + 8), .ref (m + 9), .int (nI (lnn)), .ref (m + 10), .int (nI (pn)), .int (nI (he)), .int er, .int ep, .int fc, .ref (m + 11), .int (nI (cn))])) := o0
  have ga : F (m + 1) = some (.inr (0, 4730, fun b9 => .int (nI (g b9)))) := ga
  have h2 : F (m + 2) = some (.inr (0, 8, fun b9 => .int (nI (l2 b9)))) := h2
  have h3 : F (m + 3) = some (.inr (0, 8, fun b9 => .int (nI (v3 b9)))) := h3
  have h4 : F (m + 4) = some (.inr (0, 8, fun b9 => .int (nI (r4 b9)))) := h4
  have h5 : F (m + 5) = some (.inr (0, 8, fun b9 => .int (nI (w5 b9)))) := h5
  have h6 : F (m + 6) = some (.inr (0, 112, fun b9 => .int (nI (b6 b9)))) := h6
  have h7 : F (m + 7) = some (.inr (0, 16, fun b9 => .int (nI (d7 b9)))) := h7
  have h8 : F (m + 8) = some (.inr (0, 17, fun b9 => .int (nI (b8 b9)))) := h8
  have h9 : F (m + 9) = some (.inr (1, 40, fun b9 => .int (nI (ln b9)))) := h9
  have hi : F (m + 10) = some (.inr (1, 60, fun b9 => .int (nI (ip b9)))) := hi
  have hcm : F (m + 11) = some (.inr (0, 183, fun b9 => .int (nI (cs b9)))) := hcm
  have hln : ∀ j, j < lnn → ln j = lsg j := hln
  have hip : ∀ j, j < pn → ip j = psg j := hip
  have iA : aInv A := iA
  have hu8 : un ≤ 8 := hu8
  have hup : un ≤ pp := hup
  have hs1 : sv ≤ 1 := hs1
  have hty : pn ≤ 60 := hty
  have hlz : lnn ≤ 32 := hlz
  have hr : rRow g A := hg.1
  refine x_aload_n hC d_MessageCoderModel_learn_0 rfl rfl ?_
  refine x_callV hC kv_MessageCoderModel_122 (c_MessageCoderModel_begins (o0 := o0) (ga := ga)) o0 rfl rfl (by decide) rfl rfl rfl (Nat.le_of_ble_eq_true rfl) (by decide) d_MessageCoderModel_learn_1 (fun r9 F9 z9 hp9 => ?_)
  obtain ⟨rfl, h9c, j0, j1, hag9⟩ := hp9
  rw [h9c]
  clear h9c z9
  generalize F9 = F1 at *
  have h2 : F1 (m + 2) = some (.inr (0, 8, fun b9 => .int (nI (l2 b9)))) := (hag9 _ (by omega)).trans h2
  have h3 : F1 (m + 3) = some (.inr (0, 8, fun b9 => .int (nI (v3 b9)))) := (hag9 _ (by omega)).trans h3
  have h4 : F1 (m + 4) = some (.inr (0, 8, fun b9 => .int (nI (r4 b9)))) := (hag9 _ (by omega)).trans h4
  have h5 : F1 (m + 5) = some (.inr (0, 8, fun b9 => .int (nI (w5 b9)))) := (hag9 _ (by omega)).trans h5
  have h6 : F1 (m + 6) = some (.inr (0, 112, fun b9 => .int (nI (b6 b9)))) := (hag9 _ (by omega)).trans h6
  have h7 : F1 (m + 7) = some (.inr (0, 16, fun b9 => .int (nI (d7 b9)))) := (hag9 _ (by omega)).trans h7
  have h8 : F1 (m + 8) = some (.inr (0, 17, fun b9 => .int (nI (b8 b9)))) := (hag9 _ (by omega)).trans h8
  have h9 : F1 (m + 9) = some (.inr (1, 40, fun b9 => .int (nI (ln b9)))) := (hag9 _ (by omega)).trans h9
  have hi : F1 (m + 10) = some (.inr (1, 60, fun b9 => .int (nI (ip b9)))) := (hag9 _ (by omega)).trans hi
  have hcm : F1 (m + 11) = some (.inr (0, 183, fun b9 => .int (nI (cs b9)))) := (hag9 _ (by omega)).trans hcm
  have o0 : F1 (m) = some (.inl (10, [.int (nI (th0)), .ref (m + 1), .int (nI (un)), .int (nI (sv)), .int rs, .ref (m + 2), .ref (m + 3), .ref (m + 4), .ref (m + 5), .ref (m + 6), .int (nI (bm)), .ref (m + 7), .int (nI (dm)), .ref (m + 8), .ref (m + 9), .int (nI (lnn)), .ref (m + 10), .int (nI (pn)), .int (nI (he)), .int er, .int ep, .int fc, .ref (m + 11), .int (nI (cn))])) := j0
  have ga : F1 (m + 1) = some (.inr (0, 4730, fun b9 => .int (nI ((cpyR g 0 10) b9)))) := j1
  have hag : ∀ a9 : Nat, (a9 < m ∨ m + 12 ≤ a9) → F1 a9 = F a9 := fun a9 q0 => (hag9 a9 (by omega)).trans (hag a9 q0)
  have hg_1 := hag9
  clear hag9
  refine x_aload_n hC d_MessageCoderModel_learn_4 rfl rfl ?_
  refine x_aload_n hC d_MessageCoderModel_learn_5 rfl rfl ?_
  refine x_iload_n hC d_MessageCoderModel_learn_6 rfl rfl ?_
  have hr1 : rRow (cpyR g 0 10) A := rRow_ext iA (fun q hq => cpyR_out (by omega)) hr
  refine x_callV hC kv_MessageCoderModel_161 (c_MessageCoderModel_learns (o0 := o0) (ga := ga) (hr := hr1) (hA := iA) (A := A)) o0 rfl rfl (by decide) rfl rfl rfl (Nat.le_of_ble_eq_true rfl) (by decide) d_MessageCoderModel_learn_7 (fun r9 F9 z9 hp9 => ?_)
  obtain ⟨g1, rs1, rfl, h9c, j0, j1, pr_7, po_7, pv_7, hag9⟩ := hp9
  rw [h9c]
  clear h9c z9
  generalize F9 = F2 at *
  have h2 : F2 (m + 2) = some (.inr (0, 8, fun b9 => .int (nI (l2 b9)))) := (hag9 _ (by omega)).trans h2
  have h3 : F2 (m + 3) = some (.inr (0, 8, fun b9 => .int (nI (v3 b9)))) := (hag9 _ (by omega)).trans h3
  have h4 : F2 (m + 4) = some (.inr (0, 8, fun b9 => .int (nI (r4 b9)))) := (hag9 _ (by omega)).trans h4
  have h5 : F2 (m + 5) = some (.inr (0, 8, fun b9 => .int (nI (w5 b9)))) := (hag9 _ (by omega)).trans h5
  have h6 : F2 (m + 6) = some (.inr (0, 112, fun b9 => .int (nI (b6 b9)))) := (hag9 _ (by omega)).trans h6
  have h7 : F2 (m + 7) = some (.inr (0, 16, fun b9 => .int (nI (d7 b9)))) := (hag9 _ (by omega)).trans h7
  have h8 : F2 (m + 8) = some (.inr (0, 17, fun b9 => .int (nI (b8 b9)))) := (hag9 _ (by omega)).trans h8
  have h9 : F2 (m + 9) = some (.inr (1, 40, fun b9 => .int (nI (ln b9)))) := (hag9 _ (by omega)).trans h9
  have hi : F2 (m + 10) = some (.inr (1, 60, fun b9 => .int (nI (ip b9)))) := (hag9 _ (by omega)).trans hi
  have hcm : F2 (m + 11) = some (.inr (0, 183, fun b9 => .int (nI (cs b9)))) := (hag9 _ (by omega)).trans hcm
  have o0 : F2 (m) = some (.inl (10, [.int (nI (th0)), .ref (m + 1), .int (nI (un)), .int (nI (sv)), .int rs1, .ref (m + 2), .ref (m + 3), .ref (m + 4), .ref (m + 5), .ref (m + 6), .int (nI (bm)), .ref (m + 7), .int (nI (dm)), .ref (m + 8), .ref (m + 9), .int (nI (lnn)), .ref (m + 10), .int (nI (pn)), .int (nI (he)), .int er, .int ep, .int fc, .ref (m + 11), .int (nI (cn))])) := j0
  have ga : F2 (m + 1) = some (.inr (0, 4730, fun b9 => .int (nI (g1 b9)))) := j1
  have hag : ∀ a9 : Nat, (a9 < m ∨ m + 12 ≤ a9) → F2 a9 = F a9 := fun a9 q0 => (hag9 a9 (by omega)).trans (hag a9 q0)
  have hg_7 := hag9
  clear hag9
  refine x_iconst hC d_MessageCoderModel_learn_10 (v := nI 0) (by decide) ?_
  refine x_iconst hC d_MessageCoderModel_learn_11 (v := nI 0) (by decide) ?_
  refine x_iconst hC d_MessageCoderModel_learn_12 (v := nI 1) (by decide) ?_
  refine x_iconst hC d_MessageCoderModel_learn_13 (v := nI 0) (by decide) ?_
  refine x_callV hC kv_MessageCoderModel_128 (c_MessageCoderModel_ends (o0 := o0) (ga := ga) (hy := codN_4 _) (h1 := by omega) (h2 := by omega) (h3 := by omega) (h4 := by omega) (hch := by omega)) o0 rfl rfl (by decide) rfl rfl rfl (Nat.le_of_ble_eq_true rfl) (by decide) d_MessageCoderModel_learn_14 (fun r9 F9 z9 hp9 => ?_)
  obtain ⟨rfl, h9c, j0, j1, hag9⟩ := hp9
  rw [h9c]
  clear h9c z9
  generalize F9 = F3 at *
  have h2 : F3 (m + 2) = some (.inr (0, 8, fun b9 => .int (nI (l2 b9)))) := (hag9 _ (by omega)).trans h2
  have h3 : F3 (m + 3) = some (.inr (0, 8, fun b9 => .int (nI (v3 b9)))) := (hag9 _ (by omega)).trans h3
  have h4 : F3 (m + 4) = some (.inr (0, 8, fun b9 => .int (nI (r4 b9)))) := (hag9 _ (by omega)).trans h4
  have h5 : F3 (m + 5) = some (.inr (0, 8, fun b9 => .int (nI (w5 b9)))) := (hag9 _ (by omega)).trans h5
  have h6 : F3 (m + 6) = some (.inr (0, 112, fun b9 => .int (nI (b6 b9)))) := (hag9 _ (by omega)).trans h6
  have h7 : F3 (m + 7) = some (.inr (0, 16, fun b9 => .int (nI (d7 b9)))) := (hag9 _ (by omega)).trans h7
  have h8 : F3 (m + 8) = some (.inr (0, 17, fun b9 => .int (nI (b8 b9)))) := (hag9 _ (by omega)).trans h8
  have h9 : F3 (m + 9) = some (.inr (1, 40, fun b9 => .int (nI (ln b9)))) := (hag9 _ (by omega)).trans h9
  have hi : F3 (m + 10) = some (.inr (1, 60, fun b9 => .int (nI (ip b9)))) := (hag9 _ (by omega)).trans hi
  have hcm : F3 (m + 11) = some (.inr (0, 183, fun b9 => .int (nI (cs b9)))) := (hag9 _ (by omega)).trans hcm
  have o0 : F3 (m) = some (.inl (10, [.int (nI ((thC (codN (aLe A a).1) 0 0 1 0))), .ref (m + 1), .int (nI ((if thC (codN (aLe A a).1) 0 0 1 0 = 0 then endC un else un))), .int (nI (sv)), .int rs1, .ref (m + 2), .ref (m + 3), .ref (m + 4), .ref (m + 5), .ref (m + 6), .int (nI (bm)), .ref (m + 7), .int (nI (dm)), .ref (m + 8), .ref (m + 9), .int (nI (lnn)), .ref (m + 10), .int (nI (pn)), .int (nI (he)), .int er, .int ep, .int fc, .ref (m + 11), .int (nI (cn))])) := j0
  have ga : F3 (m + 1) = some (.inr (0, 4730, fun b9 => .int (nI ((if thC (codN (aLe A a).1) 0 0 1 0 = 0 then endG g1 un else cpyR g1 10 0) b9)))) := j1
  have hag : ∀ a9 : Nat, (a9 < m ∨ m + 12 ≤ a9) → F3 a9 = F a9 := fun a9 q0 => (hag9 a9 (by omega)).trans (hag a9 q0)
  have hg_14 := hag9
  clear hag9
  refine hret _ _ _ _ _ _ _ d_MessageCoderModel_learn_17 (by decide) (by decide) rfl ?_
  have hX9 : (codN (aLe A a).1 = 0 ∧ ¬ (aLe A a).1 < 0 ∧ thC (codN (aLe A a).1) 0 0 1 0 = 0) ∨ (codN (aLe A a).1 ≠ 0 ∧ (aLe A a).1 < 0 ∧ (aLe A a).2 = A ∧ thC (codN (aLe A a).1) 0 0 1 0 ≠ 0) := by
    rcases res_Le A a iA with e9 | e9
    · exact Or.inl ⟨codN_pos e9, e9, by rw [codN_pos e9]; rfl⟩
    · exact Or.inr ⟨by rw [e9]; show ¬ codN (-3) = 0; decide, by rw [e9]; show (-3 : Int32) < 0; decide, by rw [e9], by rw [e9]; show ¬ thC (codN (-3)) 0 0 1 0 = 0; decide⟩
  have hX8 : (thC (codN (aLe A a).1) 0 0 1 0 = 0 ∧ ¬ (aLe A a).1 < 0) ∨ (thC (codN (aLe A a).1) 0 0 1 0 ≠ 0 ∧ (aLe A a).1 < 0 ∧ (aLe A a).2 = A) := hX9.elim (fun h => Or.inl ⟨h.2.2, h.2.1⟩) (fun h => Or.inr ⟨h.2.2.2, h.2.1, h.2.2.1⟩)
  obtain ⟨hR, hU⟩ := chg_R hI hg (inv_Le iA a) pr_7 po_7 hX8
  have hR : rMD (if thC (codN (aLe A a).1) 0 0 1 0 = 0 then endG g1 un else cpyR g1 10 0) (chgM (A, S, past, (pn, psg), (lnn, lsg), sv, pp, un, ep, fc) (aLe A a)) := hR
  have hU : (if thC (codN (aLe A a).1) 0 0 1 0 = 0 then endC un else un) = chU (aLe A a).1 un := hU
  have hV : (if thC (codN (aLe A a).1) 0 0 1 0 = 0 then rs1 else nI 0) = (if codN (aLe A a).1 = 0 then (aLe A a).1 else nI 0) := by
    rcases hX9 with h | h
    · rw [if_pos h.2.2, if_pos h.1]; exact pv_7 h.1
    · rw [if_neg h.2.2.2, if_neg h.1]
  rw [hU] at o0
  exact ⟨congrArg (fun q => some (Value.int q)) hV, rfl, ⟨_, _, _, _, _, _, _, _, _, _, _, _, _, _, _, _, _, o0, ga, h2, h3, h4, h5, h6, h7, h8, h9, hi, hcm, hR, hln, hip⟩, hag⟩

theorem d_MessageCoderModel_send_0 : decode prog_14_method_49_code 0 = .ok (.aload_n 0, 1) := by decide +kernel
theorem d_MessageCoderModel_send_1 : decode prog_14_method_49_code 1 = .ok (.invokevirtual 122, 3) := by decide +kernel
theorem d_MessageCoderModel_send_4 : decode prog_14_method_49_code 4 = .ok (.aload_n 0, 1) := by decide +kernel
theorem d_MessageCoderModel_send_5 : decode prog_14_method_49_code 5 = .ok (.aload_n 0, 1) := by decide +kernel
theorem d_MessageCoderModel_send_6 : decode prog_14_method_49_code 6 = .ok (.invokevirtual 179, 3) := by decide +kernel
theorem d_MessageCoderModel_send_9 : decode prog_14_method_49_code 9 = .ok (.iconst 0, 1) := by decide +kernel
theorem d_MessageCoderModel_send_10 : decode prog_14_method_49_code 10 = .ok (.iconst 0, 1) := by decide +kernel
theorem d_MessageCoderModel_send_11 : decode prog_14_method_49_code 11 = .ok (.iconst 1, 1) := by decide +kernel
theorem d_MessageCoderModel_send_12 : decode prog_14_method_49_code 12 = .ok (.iconst 0, 1) := by decide +kernel
theorem d_MessageCoderModel_send_13 : decode prog_14_method_49_code 13 = .ok (.invokevirtual 128, 3) := by decide +kernel
theorem d_MessageCoderModel_send_16 : decode prog_14_method_49_code 16 = .ok (.ireturn, 1) := by decide +kernel
set_option maxHeartbeats 4000000 in
set_option maxRecDepth 20000 in
theorem c_MessageCoderModel_send {P : xP} {F : xF} {z : Nat} {m : Nat} {th0 : Nat} {M : mcS} (hD : xMD F (m) (th0) (M)) (hI : mInv M) : xM P xy_MessageCoderModel_send [.ref m] F (z) 0 0 (fun r9 F9 z9 => r9 = some (.int (if codN (aSe M.1).1 = 0 then (aSe M.1).1 else nI 0)) ∧ z9 = z ∧ xMD F9 (m) (thC (codN (aSe M.1).1) 0 0 1 0) ((chgM M (aSe M.1))) ∧ (∀ a9 : Nat, (a9 < m ∨ m + 12 ≤ a9) → F9 a9 = F a9)) := by
  refine xM_i .int rfl (Nat.le_of_ble_eq_true rfl) (L0 := [some (.ref m)]) rfl rfl fun Θ hC hret => ?_
  have hag : ∀ a9 : Nat, (a9 < m ∨ m + 12 ≤ a9) → F a9 = F a9 := fun a9 _ => rfl
  obtain ⟨A, S, past, ⟨pn, psg⟩, ⟨lnn, lsg⟩, sv, pp, un, ep, fc⟩ := M
  obtain ⟨rs, er, bm, dm, he, cn, g, l2, v3, r4, w5, b6, d7, b8, ln, ip, cs, o0, ga, h2, h3, h4, h5, h6, h7, h8, h9, hi, hcm, hg, hln, hip⟩ := id hD
  obtain ⟨iA, iP, iS, hu8, hup, hs1, hty, hlz, hic, hlc⟩ := id hI
  have o0 : F (m) = some (.inl (10, [.int (nI (th0)), .ref (m + 1), .int (nI (un)), .int (nI (sv)), .int rs, .ref (m + 2), .ref (m + 3), .ref (m + 4), .ref (m + 5), .ref (m + 6), .int (nI (bm)), .ref (m + 7), .int (nI (dm)), .ref (m + 8), .ref (m + 9), .int (nI (lnn)), .ref (m + 10), .int (nI (pn)), .int (nI (he)), .int er, .int ep, .int fc, .ref (m + 11), .int (nI (cn))])) := o0
  have ga : F (m + 1) = some (.inr (0, 4730, fun b9 => .int (nI (g b9)))) := ga
  have h2 : F (m + 2) = some (.inr (0, 8, fun b9 => .int (nI (l2 b9)))) := h2
  have h3 : F (m + 3) = some (.inr (0, 8, fun b9 => .int (nI (v3 b9)))) := h3
  have h4 : F (m + 4) = some (.inr (0, 8, fun b9 => .int (nI (r4 b9)))) := h4
  have h5 : F (m + 5) = some (.inr (0, 8, fun b9 => .int (nI (w5 b9)))) := h5
  have h6 : F (m + 6) = some (.inr (0, 112, fun b9 => .int (nI (b6 b9)))) := h6
  have h7 : F (m + 7) = some (.inr (0, 16, fun b9 => .int (nI (d7 b9)))) := h7
  have h8 : F (m + 8) = some (.inr (0, 17, fun b9 => .int (nI (b8 b9)))) := h8
  have h9 : F (m + 9) = some (.inr (1, 40, fun b9 => .int (nI (ln b9)))) := h9
  have hi : F (m + 10) = some (.inr (1, 60, fun b9 => .int (nI (ip b9)))) := hi
  have hcm : F (m + 11) = some (.inr (0, 183, fun b9 => .int (nI (cs b9)))) := hcm
  have hln : ∀ j, j < lnn → ln j = lsg j := hln
  have hip : ∀ j, j < pn → ip j = psg j := hip
  have iA : aInv A := iA
  have hu8 : un ≤ 8 := hu8
  have hup : un ≤ pp := hup
  have hs1 : sv ≤ 1 := hs1
  have hty : pn ≤ 60 := hty
  have hlz : lnn ≤ 32 := hlz
  have hr : rRow g A := hg.1
  refine x_aload_n hC d_MessageCoderModel_send_0 rfl rfl ?_
  refine x_callV hC kv_MessageCoderModel_122 (c_MessageCoderModel_begins (o0 := o0) (ga := ga)) o0 rfl rfl (by decide) rfl rfl rfl (Nat.le_of_ble_eq_true rfl) (by decide) d_MessageCoderModel_send_1 (fun r9 F9 z9 hp9 => ?_)
  obtain ⟨rfl, h9c, j0, j1, hag9⟩ := hp9
  rw [h9c]
  clear h9c z9
  generalize F9 = F1 at *
  have h2 : F1 (m + 2) = some (.inr (0, 8, fun b9 => .int (nI (l2 b9)))) := (hag9 _ (by omega)).trans h2
  have h3 : F1 (m + 3) = some (.inr (0, 8, fun b9 => .int (nI (v3 b9)))) := (hag9 _ (by omega)).trans h3
  have h4 : F1 (m + 4) = some (.inr (0, 8, fun b9 => .int (nI (r4 b9)))) := (hag9 _ (by omega)).trans h4
  have h5 : F1 (m + 5) = some (.inr (0, 8, fun b9 => .int (nI (w5 b9)))) := (hag9 _ (by omega)).trans h5
  have h6 : F1 (m + 6) = some (.inr (0, 112, fun b9 => .int (nI (b6 b9)))) := (hag9 _ (by omega)).trans h6
  have h7 : F1 (m + 7) = some (.inr (0, 16, fun b9 => .int (nI (d7 b9)))) := (hag9 _ (by omega)).trans h7
  have h8 : F1 (m + 8) = some (.inr (0, 17, fun b9 => .int (nI (b8 b9)))) := (hag9 _ (by omega)).trans h8
  have h9 : F1 (m + 9) = some (.inr (1, 40, fun b9 => .int (nI (ln b9)))) := (hag9 _ (by omega)).trans h9
  have hi : F1 (m + 10) = some (.inr (1, 60, fun b9 => .int (nI (ip b9)))) := (hag9 _ (by omega)).trans hi
  have hcm : F1 (m + 11) = some (.inr (0, 183, fun b9 => .int (nI (cs b9)))) := (hag9 _ (by omega)).trans hcm
  have o0 : F1 (m) = some (.inl (10, [.int (nI (th0)), .ref (m + 1), .int (nI (un)), .int (nI (sv)), .int rs, .ref (m + 2), .ref (m + 3), .ref (m + 4), .ref (m + 5), .ref (m + 6), .int (nI (bm)), .ref (m + 7), .int (nI (dm)), .ref (m + 8), .ref (m + 9), .int (nI (lnn)), .ref (m + 10), .int (nI (pn)), .int (nI (he)), .int er, .int ep, .int fc, .ref (m + 11), .int (nI (cn))])) := j0
  have ga : F1 (m + 1) = some (.inr (0, 4730, fun b9 => .int (nI ((cpyR g 0 10) b9)))) := j1
  have hag : ∀ a9 : Nat, (a9 < m ∨ m + 12 ≤ a9) → F1 a9 = F a9 := fun a9 q0 => (hag9 a9 (by omega)).trans (hag a9 q0)
  have hg_1 := hag9
  clear hag9
  refine x_aload_n hC d_MessageCoderModel_send_4 rfl rfl ?_
  refine x_aload_n hC d_MessageCoderModel_send_5 rfl rfl ?_
  have hr1 : rRow (cpyR g 0 10) A := rRow_ext iA (fun q hq => cpyR_out (by omega)) hr
  refine x_callV hC kv_MessageCoderModel_179 (c_MessageCoderModel_sends (o0 := o0) (ga := ga) (h2 := h2) (h3 := h3) (h4 := h4) (h5 := h5) (h6 := h6) (hr := hr1) (hA := iA) (A := A)) o0 rfl rfl (by decide) rfl rfl rfl (Nat.le_of_ble_eq_true rfl) (by decide) d_MessageCoderModel_send_6 (fun r9 F9 z9 hp9 => ?_)
  obtain ⟨g1, rs1, bm1_6, l1_6, v1_6, r1_6, w1_6, b1_6, rfl, h9c, j0, j1, j2, j3, j4, j5, j6, pr_6, po_6, pv_6, hag9⟩ := hp9
  rw [h9c]
  clear h9c z9
  generalize F9 = F2 at *
  have h7 : F2 (m + 7) = some (.inr (0, 16, fun b9 => .int (nI (d7 b9)))) := (hag9 _ (by omega)).trans h7
  have h8 : F2 (m + 8) = some (.inr (0, 17, fun b9 => .int (nI (b8 b9)))) := (hag9 _ (by omega)).trans h8
  have h9 : F2 (m + 9) = some (.inr (1, 40, fun b9 => .int (nI (ln b9)))) := (hag9 _ (by omega)).trans h9
  have hi : F2 (m + 10) = some (.inr (1, 60, fun b9 => .int (nI (ip b9)))) := (hag9 _ (by omega)).trans hi
  have hcm : F2 (m + 11) = some (.inr (0, 183, fun b9 => .int (nI (cs b9)))) := (hag9 _ (by omega)).trans hcm
  have o0 : F2 (m) = some (.inl (10, [.int (nI (th0)), .ref (m + 1), .int (nI (un)), .int (nI (sv)), .int rs1, .ref (m + 2), .ref (m + 3), .ref (m + 4), .ref (m + 5), .ref (m + 6), .int (nI (bm1_6)), .ref (m + 7), .int (nI (dm)), .ref (m + 8), .ref (m + 9), .int (nI (lnn)), .ref (m + 10), .int (nI (pn)), .int (nI (he)), .int er, .int ep, .int fc, .ref (m + 11), .int (nI (cn))])) := j0
  have ga : F2 (m + 1) = some (.inr (0, 4730, fun b9 => .int (nI (g1 b9)))) := j1
  have h2 : F2 (m + 2) = some (.inr (0, 8, fun b9 => .int (nI (l1_6 b9)))) := j2
  have h3 : F2 (m + 3) = some (.inr (0, 8, fun b9 => .int (nI (v1_6 b9)))) := j3
  have h4 : F2 (m + 4) = some (.inr (0, 8, fun b9 => .int (nI (r1_6 b9)))) := j4
  have h5 : F2 (m + 5) = some (.inr (0, 8, fun b9 => .int (nI (w1_6 b9)))) := j5
  have h6 : F2 (m + 6) = some (.inr (0, 112, fun b9 => .int (nI (b1_6 b9)))) := j6
  have hag : ∀ a9 : Nat, (a9 < m ∨ m + 12 ≤ a9) → F2 a9 = F a9 := fun a9 q0 => (hag9 a9 (by omega)).trans (hag a9 q0)
  have hg_6 := hag9
  clear hag9
  refine x_iconst hC d_MessageCoderModel_send_9 (v := nI 0) (by decide) ?_
  refine x_iconst hC d_MessageCoderModel_send_10 (v := nI 0) (by decide) ?_
  refine x_iconst hC d_MessageCoderModel_send_11 (v := nI 1) (by decide) ?_
  refine x_iconst hC d_MessageCoderModel_send_12 (v := nI 0) (by decide) ?_
  refine x_callV hC kv_MessageCoderModel_128 (c_MessageCoderModel_ends (o0 := o0) (ga := ga) (hy := codN_4 _) (h1 := by omega) (h2 := by omega) (h3 := by omega) (h4 := by omega) (hch := by omega)) o0 rfl rfl (by decide) rfl rfl rfl (Nat.le_of_ble_eq_true rfl) (by decide) d_MessageCoderModel_send_13 (fun r9 F9 z9 hp9 => ?_)
  obtain ⟨rfl, h9c, j0, j1, hag9⟩ := hp9
  rw [h9c]
  clear h9c z9
  generalize F9 = F3 at *
  have h7 : F3 (m + 7) = some (.inr (0, 16, fun b9 => .int (nI (d7 b9)))) := (hag9 _ (by omega)).trans h7
  have h8 : F3 (m + 8) = some (.inr (0, 17, fun b9 => .int (nI (b8 b9)))) := (hag9 _ (by omega)).trans h8
  have h9 : F3 (m + 9) = some (.inr (1, 40, fun b9 => .int (nI (ln b9)))) := (hag9 _ (by omega)).trans h9
  have hi : F3 (m + 10) = some (.inr (1, 60, fun b9 => .int (nI (ip b9)))) := (hag9 _ (by omega)).trans hi
  have hcm : F3 (m + 11) = some (.inr (0, 183, fun b9 => .int (nI (cs b9)))) := (hag9 _ (by omega)).trans hcm
  have h2 : F3 (m + 2) = some (.inr (0, 8, fun b9 => .int (nI (l1_6 b9)))) := (hag9 _ (by omega)).trans h2
  have h3 : F3 (m + 3) = some (.inr (0, 8, fun b9 => .int (nI (v1_6 b9)))) := (hag9 _ (by omega)).trans h3
  have h4 : F3 (m + 4) = some (.inr (0, 8, fun b9 => .int (nI (r1_6 b9)))) := (hag9 _ (by omega)).trans h4
  have h5 : F3 (m + 5) = some (.inr (0, 8, fun b9 => .int (nI (w1_6 b9)))) := (hag9 _ (by omega)).trans h5
  have h6 : F3 (m + 6) = some (.inr (0, 112, fun b9 => .int (nI (b1_6 b9)))) := (hag9 _ (by omega)).trans h6
  have o0 : F3 (m) = some (.inl (10, [.int (nI ((thC (codN (aSe A).1) 0 0 1 0))), .ref (m + 1), .int (nI ((if thC (codN (aSe A).1) 0 0 1 0 = 0 then endC un else un))), .int (nI (sv)), .int rs1, .ref (m + 2), .ref (m + 3), .ref (m + 4), .ref (m + 5), .ref (m + 6), .int (nI (bm1_6)), .ref (m + 7), .int (nI (dm)), .ref (m + 8), .ref (m + 9), .int (nI (lnn)), .ref (m + 10), .int (nI (pn)), .int (nI (he)), .int er, .int ep, .int fc, .ref (m + 11), .int (nI (cn))])) := j0
  have ga : F3 (m + 1) = some (.inr (0, 4730, fun b9 => .int (nI ((if thC (codN (aSe A).1) 0 0 1 0 = 0 then endG g1 un else cpyR g1 10 0) b9)))) := j1
  have hag : ∀ a9 : Nat, (a9 < m ∨ m + 12 ≤ a9) → F3 a9 = F a9 := fun a9 q0 => (hag9 a9 (by omega)).trans (hag a9 q0)
  have hg_13 := hag9
  clear hag9
  refine hret _ _ _ _ _ _ _ d_MessageCoderModel_send_16 (by decide) (by decide) rfl ?_
  have hX9 : (codN (aSe A).1 = 0 ∧ ¬ (aSe A).1 < 0 ∧ thC (codN (aSe A).1) 0 0 1 0 = 0) ∨ (codN (aSe A).1 ≠ 0 ∧ (aSe A).1 < 0 ∧ (aSe A).2 = A ∧ thC (codN (aSe A).1) 0 0 1 0 ≠ 0) := by
    rcases res_Se A iA with e9 | e9
    · exact Or.inl ⟨codN_pos e9, e9, by rw [codN_pos e9]; rfl⟩
    · exact Or.inr ⟨by rw [e9]; show ¬ codN (-3) = 0; decide, by rw [e9]; show (-3 : Int32) < 0; decide, by rw [e9], by rw [e9]; show ¬ thC (codN (-3)) 0 0 1 0 = 0; decide⟩
  have hX8 : (thC (codN (aSe A).1) 0 0 1 0 = 0 ∧ ¬ (aSe A).1 < 0) ∨ (thC (codN (aSe A).1) 0 0 1 0 ≠ 0 ∧ (aSe A).1 < 0 ∧ (aSe A).2 = A) := hX9.elim (fun h => Or.inl ⟨h.2.2, h.2.1⟩) (fun h => Or.inr ⟨h.2.2.2, h.2.1, h.2.2.1⟩)
  obtain ⟨hR, hU⟩ := chg_R hI hg (inv_Se iA) pr_6 po_6 hX8
  have hR : rMD (if thC (codN (aSe A).1) 0 0 1 0 = 0 then endG g1 un else cpyR g1 10 0) (chgM (A, S, past, (pn, psg), (lnn, lsg), sv, pp, un, ep, fc) (aSe A)) := hR
  have hU : (if thC (codN (aSe A).1) 0 0 1 0 = 0 then endC un else un) = chU (aSe A).1 un := hU
  have hV : (if thC (codN (aSe A).1) 0 0 1 0 = 0 then rs1 else nI 0) = (if codN (aSe A).1 = 0 then (aSe A).1 else nI 0) := by
    rcases hX9 with h | h
    · rw [if_pos h.2.2, if_pos h.1]; exact pv_6 h.1
    · rw [if_neg h.2.2.2, if_neg h.1]
  rw [hU] at o0
  exact ⟨congrArg (fun q => some (Value.int q)) hV, rfl, ⟨_, _, _, _, _, _, _, _, _, _, _, _, _, _, _, _, _, o0, ga, h2, h3, h4, h5, h6, h7, h8, h9, hi, hcm, hR, hln, hip⟩, hag⟩

theorem d_MessageCoderModel_flip_0 : decode prog_14_method_51_code 0 = .ok (.aload_n 0, 1) := by decide +kernel
theorem d_MessageCoderModel_flip_1 : decode prog_14_method_51_code 1 = .ok (.invokevirtual 122, 3) := by decide +kernel
theorem d_MessageCoderModel_flip_4 : decode prog_14_method_51_code 4 = .ok (.aload_n 0, 1) := by decide +kernel
theorem d_MessageCoderModel_flip_5 : decode prog_14_method_51_code 5 = .ok (.aload_n 0, 1) := by decide +kernel
theorem d_MessageCoderModel_flip_6 : decode prog_14_method_51_code 6 = .ok (.iload_n 1, 1) := by decide +kernel
theorem d_MessageCoderModel_flip_7 : decode prog_14_method_51_code 7 = .ok (.invokevirtual 185, 3) := by decide +kernel
theorem d_MessageCoderModel_flip_10 : decode prog_14_method_51_code 10 = .ok (.iconst 0, 1) := by decide +kernel
theorem d_MessageCoderModel_flip_11 : decode prog_14_method_51_code 11 = .ok (.iconst 0, 1) := by decide +kernel
theorem d_MessageCoderModel_flip_12 : decode prog_14_method_51_code 12 = .ok (.iconst 0, 1) := by decide +kernel
theorem d_MessageCoderModel_flip_13 : decode prog_14_method_51_code 13 = .ok (.iconst 1, 1) := by decide +kernel
theorem d_MessageCoderModel_flip_14 : decode prog_14_method_51_code 14 = .ok (.invokevirtual 128, 3) := by decide +kernel
theorem d_MessageCoderModel_flip_17 : decode prog_14_method_51_code 17 = .ok (.ireturn, 1) := by decide +kernel
set_option maxHeartbeats 4000000 in
set_option maxRecDepth 20000 in
theorem c_MessageCoderModel_flip {P : xP} {F : xF} {z : Nat} {m : Nat} {th0 : Nat} {M : mcS} {a : Int32} (hD : xMD F (m) (th0) (M)) (hI : mInv M) : xM P xy_MessageCoderModel_flip [.ref m, .int a] F (z) 0 0 (fun r9 F9 z9 => r9 = some (.int (if codN (aFl M.1 a).1 = 0 then (aFl M.1 a).1 else nI 0)) ∧ z9 = z ∧ xMD F9 (m) (thC (codN (aFl M.1 a).1) 0 0 0 1) ((chgM M (aFl M.1 a))) ∧ (∀ a9 : Nat, (a9 < m ∨ m + 12 ≤ a9) → F9 a9 = F a9)) := by
  refine xM_i .int rfl (Nat.le_of_ble_eq_true rfl) (L0 := [some (.ref m), some (.int a)]) rfl rfl fun Θ hC hret => ?_
  have hag : ∀ a9 : Nat, (a9 < m ∨ m + 12 ≤ a9) → F a9 = F a9 := fun a9 _ => rfl
  obtain ⟨A, S, past, ⟨pn, psg⟩, ⟨lnn, lsg⟩, sv, pp, un, ep, fc⟩ := M
  obtain ⟨rs, er, bm, dm, he, cn, g, l2, v3, r4, w5, b6, d7, b8, ln, ip, cs, o0, ga, h2, h3, h4, h5, h6, h7, h8, h9, hi, hcm, hg, hln, hip⟩ := id hD
  obtain ⟨iA, iP, iS, hu8, hup, hs1, hty, hlz, hic, hlc⟩ := id hI
  have o0 : F (m) = some (.inl (10, [.int (nI (th0)), .ref (m + 1), .int (nI (un)), .int (nI (sv)), .int rs, .ref (m + 2), .ref (m + 3), .ref (m + 4), .ref (m + 5), .ref (m + 6), .int (nI (bm)), .ref (m + 7), .int (nI (dm)), .ref (m + 8), .ref (m + 9), .int (nI (lnn)), .ref (m + 10), .int (nI (pn)), .int (nI (he)), .int er, .int ep, .int fc, .ref (m + 11), .int (nI (cn))])) := o0
  have ga : F (m + 1) = some (.inr (0, 4730, fun b9 => .int (nI (g b9)))) := ga
  have h2 : F (m + 2) = some (.inr (0, 8, fun b9 => .int (nI (l2 b9)))) := h2
  have h3 : F (m + 3) = some (.inr (0, 8, fun b9 => .int (nI (v3 b9)))) := h3
  have h4 : F (m + 4) = some (.inr (0, 8, fun b9 => .int (nI (r4 b9)))) := h4
  have h5 : F (m + 5) = some (.inr (0, 8, fun b9 => .int (nI (w5 b9)))) := h5
  have h6 : F (m + 6) = some (.inr (0, 112, fun b9 => .int (nI (b6 b9)))) := h6
  have h7 : F (m + 7) = some (.inr (0, 16, fun b9 => .int (nI (d7 b9)))) := h7
  have h8 : F (m + 8) = some (.inr (0, 17, fun b9 => .int (nI (b8 b9)))) := h8
  have h9 : F (m + 9) = some (.inr (1, 40, fun b9 => .int (nI (ln b9)))) := h9
  have hi : F (m + 10) = some (.inr (1, 60, fun b9 => .int (nI (ip b9)))) := hi
  have hcm : F (m + 11) = some (.inr (0, 183, fun b9 => .int (nI (cs b9)))) := hcm
  have hln : ∀ j, j < lnn → ln j = lsg j := hln
  have hip : ∀ j, j < pn → ip j = psg j := hip
  have iA : aInv A := iA
  have hu8 : un ≤ 8 := hu8
  have hup : un ≤ pp := hup
  have hs1 : sv ≤ 1 := hs1
  have hty : pn ≤ 60 := hty
  have hlz : lnn ≤ 32 := hlz
  have hr : rRow g A := hg.1
  refine x_aload_n hC d_MessageCoderModel_flip_0 rfl rfl ?_
  refine x_callV hC kv_MessageCoderModel_122 (c_MessageCoderModel_begins (o0 := o0) (ga := ga)) o0 rfl rfl (by decide) rfl rfl rfl (Nat.le_of_ble_eq_true rfl) (by decide) d_MessageCoderModel_flip_1 (fun r9 F9 z9 hp9 => ?_)
  obtain ⟨rfl, h9c, j0, j1, hag9⟩ := hp9
  rw [h9c]
  clear h9c z9
  generalize F9 = F1 at *
  have h2 : F1 (m + 2) = some (.inr (0, 8, fun b9 => .int (nI (l2 b9)))) := (hag9 _ (by omega)).trans h2
  have h3 : F1 (m + 3) = some (.inr (0, 8, fun b9 => .int (nI (v3 b9)))) := (hag9 _ (by omega)).trans h3
  have h4 : F1 (m + 4) = some (.inr (0, 8, fun b9 => .int (nI (r4 b9)))) := (hag9 _ (by omega)).trans h4
  have h5 : F1 (m + 5) = some (.inr (0, 8, fun b9 => .int (nI (w5 b9)))) := (hag9 _ (by omega)).trans h5
  have h6 : F1 (m + 6) = some (.inr (0, 112, fun b9 => .int (nI (b6 b9)))) := (hag9 _ (by omega)).trans h6
  have h7 : F1 (m + 7) = some (.inr (0, 16, fun b9 => .int (nI (d7 b9)))) := (hag9 _ (by omega)).trans h7
  have h8 : F1 (m + 8) = some (.inr (0, 17, fun b9 => .int (nI (b8 b9)))) := (hag9 _ (by omega)).trans h8
  have h9 : F1 (m + 9) = some (.inr (1, 40, fun b9 => .int (nI (ln b9)))) := (hag9 _ (by omega)).trans h9
  have hi : F1 (m + 10) = some (.inr (1, 60, fun b9 => .int (nI (ip b9)))) := (hag9 _ (by omega)).trans hi
  have hcm : F1 (m + 11) = some (.inr (0, 183, fun b9 => .int (nI (cs b9)))) := (hag9 _ (by omega)).trans hcm
  have o0 : F1 (m) = some (.inl (10, [.int (nI (th0)), .ref (m + 1), .int (nI (un)), .int (nI (sv)), .int rs, .ref (m + 2), .ref (m + 3), .ref (m + 4), .ref (m + 5), .ref (m + 6), .int (nI (bm)), .ref (m + 7), .int (nI (dm)), .ref (m + 8), .ref (m + 9), .int (nI (lnn)), .ref (m + 10), .int (nI (pn)), .int (nI (he)), .int er, .int ep, .int fc, .ref (m + 11), .int (nI (cn))])) := j0
  have ga : F1 (m + 1) = some (.inr (0, 4730, fun b9 => .int (nI ((cpyR g 0 10) b9)))) := j1
  have hag : ∀ a9 : Nat, (a9 < m ∨ m + 12 ≤ a9) → F1 a9 = F a9 := fun a9 q0 => (hag9 a9 (by omega)).trans (hag a9 q0)
  have hg_1 := hag9
  clear hag9
  refine x_aload_n hC d_MessageCoderModel_flip_4 rfl rfl ?_
  refine x_aload_n hC d_MessageCoderModel_flip_5 rfl rfl ?_
  refine x_iload_n hC d_MessageCoderModel_flip_6 rfl rfl ?_
  have hr1 : rRow (cpyR g 0 10) A := rRow_ext iA (fun q hq => cpyR_out (by omega)) hr
  refine x_callV hC kv_MessageCoderModel_185 (c_MessageCoderModel_flips (o0 := o0) (ga := ga) (hr := hr1) (hA := iA) (A := A)) o0 rfl rfl (by decide) rfl rfl rfl (Nat.le_of_ble_eq_true rfl) (by decide) d_MessageCoderModel_flip_7 (fun r9 F9 z9 hp9 => ?_)
  obtain ⟨g1, rs1, rfl, h9c, j0, j1, pr_7, po_7, pv_7, hag9⟩ := hp9
  rw [h9c]
  clear h9c z9
  generalize F9 = F2 at *
  have h2 : F2 (m + 2) = some (.inr (0, 8, fun b9 => .int (nI (l2 b9)))) := (hag9 _ (by omega)).trans h2
  have h3 : F2 (m + 3) = some (.inr (0, 8, fun b9 => .int (nI (v3 b9)))) := (hag9 _ (by omega)).trans h3
  have h4 : F2 (m + 4) = some (.inr (0, 8, fun b9 => .int (nI (r4 b9)))) := (hag9 _ (by omega)).trans h4
  have h5 : F2 (m + 5) = some (.inr (0, 8, fun b9 => .int (nI (w5 b9)))) := (hag9 _ (by omega)).trans h5
  have h6 : F2 (m + 6) = some (.inr (0, 112, fun b9 => .int (nI (b6 b9)))) := (hag9 _ (by omega)).trans h6
  have h7 : F2 (m + 7) = some (.inr (0, 16, fun b9 => .int (nI (d7 b9)))) := (hag9 _ (by omega)).trans h7
  have h8 : F2 (m + 8) = some (.inr (0, 17, fun b9 => .int (nI (b8 b9)))) := (hag9 _ (by omega)).trans h8
  have h9 : F2 (m + 9) = some (.inr (1, 40, fun b9 => .int (nI (ln b9)))) := (hag9 _ (by omega)).trans h9
  have hi : F2 (m + 10) = some (.inr (1, 60, fun b9 => .int (nI (ip b9)))) := (hag9 _ (by omega)).trans hi
  have hcm : F2 (m + 11) = some (.inr (0, 183, fun b9 => .int (nI (cs b9)))) := (hag9 _ (by omega)).trans hcm
  have o0 : F2 (m) = some (.inl (10, [.int (nI (th0)), .ref (m + 1), .int (nI (un)), .int (nI (sv)), .int rs1, .ref (m + 2), .ref (m + 3), .ref (m + 4), .ref (m + 5), .ref (m + 6), .int (nI (bm)), .ref (m + 7), .int (nI (dm)), .ref (m + 8), .ref (m + 9), .int (nI (lnn)), .ref (m + 10), .int (nI (pn)), .int (nI (he)), .int er, .int ep, .int fc, .ref (m + 11), .int (nI (cn))])) := j0
  have ga : F2 (m + 1) = some (.inr (0, 4730, fun b9 => .int (nI (g1 b9)))) := j1
  have hag : ∀ a9 : Nat, (a9 < m ∨ m + 12 ≤ a9) → F2 a9 = F a9 := fun a9 q0 => (hag9 a9 (by omega)).trans (hag a9 q0)
  have hg_7 := hag9
  clear hag9
  refine x_iconst hC d_MessageCoderModel_flip_10 (v := nI 0) (by decide) ?_
  refine x_iconst hC d_MessageCoderModel_flip_11 (v := nI 0) (by decide) ?_
  refine x_iconst hC d_MessageCoderModel_flip_12 (v := nI 0) (by decide) ?_
  refine x_iconst hC d_MessageCoderModel_flip_13 (v := nI 1) (by decide) ?_
  refine x_callV hC kv_MessageCoderModel_128 (c_MessageCoderModel_ends (o0 := o0) (ga := ga) (hy := codN_4 _) (h1 := by omega) (h2 := by omega) (h3 := by omega) (h4 := by omega) (hch := by omega)) o0 rfl rfl (by decide) rfl rfl rfl (Nat.le_of_ble_eq_true rfl) (by decide) d_MessageCoderModel_flip_14 (fun r9 F9 z9 hp9 => ?_)
  obtain ⟨rfl, h9c, j0, j1, hag9⟩ := hp9
  rw [h9c]
  clear h9c z9
  generalize F9 = F3 at *
  have h2 : F3 (m + 2) = some (.inr (0, 8, fun b9 => .int (nI (l2 b9)))) := (hag9 _ (by omega)).trans h2
  have h3 : F3 (m + 3) = some (.inr (0, 8, fun b9 => .int (nI (v3 b9)))) := (hag9 _ (by omega)).trans h3
  have h4 : F3 (m + 4) = some (.inr (0, 8, fun b9 => .int (nI (r4 b9)))) := (hag9 _ (by omega)).trans h4
  have h5 : F3 (m + 5) = some (.inr (0, 8, fun b9 => .int (nI (w5 b9)))) := (hag9 _ (by omega)).trans h5
  have h6 : F3 (m + 6) = some (.inr (0, 112, fun b9 => .int (nI (b6 b9)))) := (hag9 _ (by omega)).trans h6
  have h7 : F3 (m + 7) = some (.inr (0, 16, fun b9 => .int (nI (d7 b9)))) := (hag9 _ (by omega)).trans h7
  have h8 : F3 (m + 8) = some (.inr (0, 17, fun b9 => .int (nI (b8 b9)))) := (hag9 _ (by omega)).trans h8
  have h9 : F3 (m + 9) = some (.inr (1, 40, fun b9 => .int (nI (ln b9)))) := (hag9 _ (by omega)).trans h9
  have hi : F3 (m + 10) = some (.inr (1, 60, fun b9 => .int (nI (ip b9)))) := (hag9 _ (by omega)).trans hi
  have hcm : F3 (m + 11) = some (.inr (0, 183, fun b9 => .int (nI (cs b9)))) := (hag9 _ (by omega)).trans hcm
  have o0 : F3 (m) = some (.inl (10, [.int (nI ((thC (codN (aFl A a).1) 0 0 0 1))), .ref (m + 1), .int (nI ((if thC (codN (aFl A a).1) 0 0 0 1 = 0 then endC un else un))), .int (nI (sv)), .int rs1, .ref (m + 2), .ref (m + 3), .ref (m + 4), .ref (m + 5), .ref (m + 6), .int (nI (bm)), .ref (m + 7), .int (nI (dm)), .ref (m + 8), .ref (m + 9), .int (nI (lnn)), .ref (m + 10), .int (nI (pn)), .int (nI (he)), .int er, .int ep, .int fc, .ref (m + 11), .int (nI (cn))])) := j0
  have ga : F3 (m + 1) = some (.inr (0, 4730, fun b9 => .int (nI ((if thC (codN (aFl A a).1) 0 0 0 1 = 0 then endG g1 un else cpyR g1 10 0) b9)))) := j1
  have hag : ∀ a9 : Nat, (a9 < m ∨ m + 12 ≤ a9) → F3 a9 = F a9 := fun a9 q0 => (hag9 a9 (by omega)).trans (hag a9 q0)
  have hg_14 := hag9
  clear hag9
  refine hret _ _ _ _ _ _ _ d_MessageCoderModel_flip_17 (by decide) (by decide) rfl ?_
  have hX9 : (codN (aFl A a).1 = 0 ∧ ¬ (aFl A a).1 < 0 ∧ thC (codN (aFl A a).1) 0 0 0 1 = 0) ∨ (codN (aFl A a).1 ≠ 0 ∧ (aFl A a).1 < 0 ∧ (aFl A a).2 = A ∧ thC (codN (aFl A a).1) 0 0 0 1 ≠ 0) := by
    rcases res_Fl A a iA with e9 | e9
    · exact Or.inl ⟨codN_pos e9, e9, by rw [codN_pos e9]; rfl⟩
    · exact Or.inr ⟨by rw [e9]; show ¬ codN (-4) = 0; decide, by rw [e9]; show (-4 : Int32) < 0; decide, by rw [e9], by rw [e9]; show ¬ thC (codN (-4)) 0 0 0 1 = 0; decide⟩
  have hX8 : (thC (codN (aFl A a).1) 0 0 0 1 = 0 ∧ ¬ (aFl A a).1 < 0) ∨ (thC (codN (aFl A a).1) 0 0 0 1 ≠ 0 ∧ (aFl A a).1 < 0 ∧ (aFl A a).2 = A) := hX9.elim (fun h => Or.inl ⟨h.2.2, h.2.1⟩) (fun h => Or.inr ⟨h.2.2.2, h.2.1, h.2.2.1⟩)
  obtain ⟨hR, hU⟩ := chg_R hI hg (inv_Fl iA a) pr_7 po_7 hX8
  have hR : rMD (if thC (codN (aFl A a).1) 0 0 0 1 = 0 then endG g1 un else cpyR g1 10 0) (chgM (A, S, past, (pn, psg), (lnn, lsg), sv, pp, un, ep, fc) (aFl A a)) := hR
  have hU : (if thC (codN (aFl A a).1) 0 0 0 1 = 0 then endC un else un) = chU (aFl A a).1 un := hU
  have hV : (if thC (codN (aFl A a).1) 0 0 0 1 = 0 then rs1 else nI 0) = (if codN (aFl A a).1 = 0 then (aFl A a).1 else nI 0) := by
    rcases hX9 with h | h
    · rw [if_pos h.2.2, if_pos h.1]; exact pv_7 h.1
    · rw [if_neg h.2.2.2, if_neg h.1]
  rw [hU] at o0
  exact ⟨congrArg (fun q => some (Value.int q)) hV, rfl, ⟨_, _, _, _, _, _, _, _, _, _, _, _, _, _, _, _, _, o0, ga, h2, h3, h4, h5, h6, h7, h8, h9, hi, hcm, hR, hln, hip⟩, hag⟩

theorem d_MessageCoderModel_receive_0 : decode prog_14_method_53_code 0 = .ok (.aload_n 0, 1) := by decide +kernel
theorem d_MessageCoderModel_receive_1 : decode prog_14_method_53_code 1 = .ok (.invokevirtual 122, 3) := by decide +kernel
theorem d_MessageCoderModel_receive_4 : decode prog_14_method_53_code 4 = .ok (.aload_n 0, 1) := by decide +kernel
theorem d_MessageCoderModel_receive_5 : decode prog_14_method_53_code 5 = .ok (.aload_n 0, 1) := by decide +kernel
theorem d_MessageCoderModel_receive_6 : decode prog_14_method_53_code 6 = .ok (.invokevirtual 192, 3) := by decide +kernel
theorem d_MessageCoderModel_receive_9 : decode prog_14_method_53_code 9 = .ok (.iconst 0, 1) := by decide +kernel
theorem d_MessageCoderModel_receive_10 : decode prog_14_method_53_code 10 = .ok (.iconst 0, 1) := by decide +kernel
theorem d_MessageCoderModel_receive_11 : decode prog_14_method_53_code 11 = .ok (.iconst 1, 1) := by decide +kernel
theorem d_MessageCoderModel_receive_12 : decode prog_14_method_53_code 12 = .ok (.iconst 0, 1) := by decide +kernel
theorem d_MessageCoderModel_receive_13 : decode prog_14_method_53_code 13 = .ok (.invokevirtual 128, 3) := by decide +kernel
theorem d_MessageCoderModel_receive_16 : decode prog_14_method_53_code 16 = .ok (.ireturn, 1) := by decide +kernel
set_option maxHeartbeats 4000000 in
set_option maxRecDepth 20000 in
theorem c_MessageCoderModel_receive {P : xP} {F : xF} {z : Nat} {m : Nat} {th0 : Nat} {M : mcS} (hD : xMD F (m) (th0) (M)) (hI : mInv M) : xM P xy_MessageCoderModel_receive [.ref m] F (z) 0 0 (fun r9 F9 z9 => r9 = some (.int (if codN (aRe M.1).1 = 0 then (aRe M.1).1 else nI 0)) ∧ z9 = z ∧ xMD F9 (m) (thC (codN (aRe M.1).1) 0 0 1 0) ((chgM M (aRe M.1))) ∧ (∀ a9 : Nat, (a9 < m ∨ m + 12 ≤ a9) → F9 a9 = F a9)) := by
  refine xM_i .int rfl (Nat.le_of_ble_eq_true rfl) (L0 := [some (.ref m)]) rfl rfl fun Θ hC hret => ?_
  have hag : ∀ a9 : Nat, (a9 < m ∨ m + 12 ≤ a9) → F a9 = F a9 := fun a9 _ => rfl
  obtain ⟨A, S, past, ⟨pn, psg⟩, ⟨lnn, lsg⟩, sv, pp, un, ep, fc⟩ := M
  obtain ⟨rs, er, bm, dm, he, cn, g, l2, v3, r4, w5, b6, d7, b8, ln, ip, cs, o0, ga, h2, h3, h4, h5, h6, h7, h8, h9, hi, hcm, hg, hln, hip⟩ := id hD
  obtain ⟨iA, iP, iS, hu8, hup, hs1, hty, hlz, hic, hlc⟩ := id hI
  have o0 : F (m) = some (.inl (10, [.int (nI (th0)), .ref (m + 1), .int (nI (un)), .int (nI (sv)), .int rs, .ref (m + 2), .ref (m + 3), .ref (m + 4), .ref (m + 5), .ref (m + 6), .int (nI (bm)), .ref (m + 7), .int (nI (dm)), .ref (m + 8), .ref (m + 9), .int (nI (lnn)), .ref (m + 10), .int (nI (pn)), .int (nI (he)), .int er, .int ep, .int fc, .ref (m + 11), .int (nI (cn))])) := o0
  have ga : F (m + 1) = some (.inr (0, 4730, fun b9 => .int (nI (g b9)))) := ga
  have h2 : F (m + 2) = some (.inr (0, 8, fun b9 => .int (nI (l2 b9)))) := h2
  have h3 : F (m + 3) = some (.inr (0, 8, fun b9 => .int (nI (v3 b9)))) := h3
  have h4 : F (m + 4) = some (.inr (0, 8, fun b9 => .int (nI (r4 b9)))) := h4
  have h5 : F (m + 5) = some (.inr (0, 8, fun b9 => .int (nI (w5 b9)))) := h5
  have h6 : F (m + 6) = some (.inr (0, 112, fun b9 => .int (nI (b6 b9)))) := h6
  have h7 : F (m + 7) = some (.inr (0, 16, fun b9 => .int (nI (d7 b9)))) := h7
  have h8 : F (m + 8) = some (.inr (0, 17, fun b9 => .int (nI (b8 b9)))) := h8
  have h9 : F (m + 9) = some (.inr (1, 40, fun b9 => .int (nI (ln b9)))) := h9
  have hi : F (m + 10) = some (.inr (1, 60, fun b9 => .int (nI (ip b9)))) := hi
  have hcm : F (m + 11) = some (.inr (0, 183, fun b9 => .int (nI (cs b9)))) := hcm
  have hln : ∀ j, j < lnn → ln j = lsg j := hln
  have hip : ∀ j, j < pn → ip j = psg j := hip
  have iA : aInv A := iA
  have hu8 : un ≤ 8 := hu8
  have hup : un ≤ pp := hup
  have hs1 : sv ≤ 1 := hs1
  have hty : pn ≤ 60 := hty
  have hlz : lnn ≤ 32 := hlz
  have hr : rRow g A := hg.1
  refine x_aload_n hC d_MessageCoderModel_receive_0 rfl rfl ?_
  refine x_callV hC kv_MessageCoderModel_122 (c_MessageCoderModel_begins (o0 := o0) (ga := ga)) o0 rfl rfl (by decide) rfl rfl rfl (Nat.le_of_ble_eq_true rfl) (by decide) d_MessageCoderModel_receive_1 (fun r9 F9 z9 hp9 => ?_)
  obtain ⟨rfl, h9c, j0, j1, hag9⟩ := hp9
  rw [h9c]
  clear h9c z9
  generalize F9 = F1 at *
  have h2 : F1 (m + 2) = some (.inr (0, 8, fun b9 => .int (nI (l2 b9)))) := (hag9 _ (by omega)).trans h2
  have h3 : F1 (m + 3) = some (.inr (0, 8, fun b9 => .int (nI (v3 b9)))) := (hag9 _ (by omega)).trans h3
  have h4 : F1 (m + 4) = some (.inr (0, 8, fun b9 => .int (nI (r4 b9)))) := (hag9 _ (by omega)).trans h4
  have h5 : F1 (m + 5) = some (.inr (0, 8, fun b9 => .int (nI (w5 b9)))) := (hag9 _ (by omega)).trans h5
  have h6 : F1 (m + 6) = some (.inr (0, 112, fun b9 => .int (nI (b6 b9)))) := (hag9 _ (by omega)).trans h6
  have h7 : F1 (m + 7) = some (.inr (0, 16, fun b9 => .int (nI (d7 b9)))) := (hag9 _ (by omega)).trans h7
  have h8 : F1 (m + 8) = some (.inr (0, 17, fun b9 => .int (nI (b8 b9)))) := (hag9 _ (by omega)).trans h8
  have h9 : F1 (m + 9) = some (.inr (1, 40, fun b9 => .int (nI (ln b9)))) := (hag9 _ (by omega)).trans h9
  have hi : F1 (m + 10) = some (.inr (1, 60, fun b9 => .int (nI (ip b9)))) := (hag9 _ (by omega)).trans hi
  have hcm : F1 (m + 11) = some (.inr (0, 183, fun b9 => .int (nI (cs b9)))) := (hag9 _ (by omega)).trans hcm
  have o0 : F1 (m) = some (.inl (10, [.int (nI (th0)), .ref (m + 1), .int (nI (un)), .int (nI (sv)), .int rs, .ref (m + 2), .ref (m + 3), .ref (m + 4), .ref (m + 5), .ref (m + 6), .int (nI (bm)), .ref (m + 7), .int (nI (dm)), .ref (m + 8), .ref (m + 9), .int (nI (lnn)), .ref (m + 10), .int (nI (pn)), .int (nI (he)), .int er, .int ep, .int fc, .ref (m + 11), .int (nI (cn))])) := j0
  have ga : F1 (m + 1) = some (.inr (0, 4730, fun b9 => .int (nI ((cpyR g 0 10) b9)))) := j1
  have hag : ∀ a9 : Nat, (a9 < m ∨ m + 12 ≤ a9) → F1 a9 = F a9 := fun a9 q0 => (hag9 a9 (by omega)).trans (hag a9 q0)
  have hg_1 := hag9
  clear hag9
  refine x_aload_n hC d_MessageCoderModel_receive_4 rfl rfl ?_
  refine x_aload_n hC d_MessageCoderModel_receive_5 rfl rfl ?_
  have hr1 : rRow (cpyR g 0 10) A := rRow_ext iA (fun q hq => cpyR_out (by omega)) hr
  refine x_callV hC kv_MessageCoderModel_192 (c_MessageCoderModel_receives (o0 := o0) (ga := ga) (h7 := h7) (hr := hr1) (hA := iA) (A := A)) o0 rfl rfl (by decide) rfl rfl rfl (Nat.le_of_ble_eq_true rfl) (by decide) d_MessageCoderModel_receive_6 (fun r9 F9 z9 hp9 => ?_)
  obtain ⟨g1, rs1, dm1_6, d1_6, rfl, h9c, j0, j1, j2, pr_6, po_6, pv_6, hag9⟩ := hp9
  rw [h9c]
  clear h9c z9
  generalize F9 = F2 at *
  have h2 : F2 (m + 2) = some (.inr (0, 8, fun b9 => .int (nI (l2 b9)))) := (hag9 _ (by omega) (by omega)).trans h2
  have h3 : F2 (m + 3) = some (.inr (0, 8, fun b9 => .int (nI (v3 b9)))) := (hag9 _ (by omega) (by omega)).trans h3
  have h4 : F2 (m + 4) = some (.inr (0, 8, fun b9 => .int (nI (r4 b9)))) := (hag9 _ (by omega) (by omega)).trans h4
  have h5 : F2 (m + 5) = some (.inr (0, 8, fun b9 => .int (nI (w5 b9)))) := (hag9 _ (by omega) (by omega)).trans h5
  have h6 : F2 (m + 6) = some (.inr (0, 112, fun b9 => .int (nI (b6 b9)))) := (hag9 _ (by omega) (by omega)).trans h6
  have h8 : F2 (m + 8) = some (.inr (0, 17, fun b9 => .int (nI (b8 b9)))) := (hag9 _ (by omega) (by omega)).trans h8
  have h9 : F2 (m + 9) = some (.inr (1, 40, fun b9 => .int (nI (ln b9)))) := (hag9 _ (by omega) (by omega)).trans h9
  have hi : F2 (m + 10) = some (.inr (1, 60, fun b9 => .int (nI (ip b9)))) := (hag9 _ (by omega) (by omega)).trans hi
  have hcm : F2 (m + 11) = some (.inr (0, 183, fun b9 => .int (nI (cs b9)))) := (hag9 _ (by omega) (by omega)).trans hcm
  have o0 : F2 (m) = some (.inl (10, [.int (nI (th0)), .ref (m + 1), .int (nI (un)), .int (nI (sv)), .int rs1, .ref (m + 2), .ref (m + 3), .ref (m + 4), .ref (m + 5), .ref (m + 6), .int (nI (bm)), .ref (m + 7), .int (nI (dm1_6)), .ref (m + 8), .ref (m + 9), .int (nI (lnn)), .ref (m + 10), .int (nI (pn)), .int (nI (he)), .int er, .int ep, .int fc, .ref (m + 11), .int (nI (cn))])) := j0
  have ga : F2 (m + 1) = some (.inr (0, 4730, fun b9 => .int (nI (g1 b9)))) := j1
  have h7 : F2 (m + 7) = some (.inr (0, 16, fun b9 => .int (nI (d1_6 b9)))) := j2
  have hag : ∀ a9 : Nat, (a9 < m ∨ m + 12 ≤ a9) → F2 a9 = F a9 := fun a9 q0 => (hag9 a9 (by omega) (by omega)).trans (hag a9 q0)
  have hg_6 := hag9
  clear hag9
  refine x_iconst hC d_MessageCoderModel_receive_9 (v := nI 0) (by decide) ?_
  refine x_iconst hC d_MessageCoderModel_receive_10 (v := nI 0) (by decide) ?_
  refine x_iconst hC d_MessageCoderModel_receive_11 (v := nI 1) (by decide) ?_
  refine x_iconst hC d_MessageCoderModel_receive_12 (v := nI 0) (by decide) ?_
  refine x_callV hC kv_MessageCoderModel_128 (c_MessageCoderModel_ends (o0 := o0) (ga := ga) (hy := codN_4 _) (h1 := by omega) (h2 := by omega) (h3 := by omega) (h4 := by omega) (hch := by omega)) o0 rfl rfl (by decide) rfl rfl rfl (Nat.le_of_ble_eq_true rfl) (by decide) d_MessageCoderModel_receive_13 (fun r9 F9 z9 hp9 => ?_)
  obtain ⟨rfl, h9c, j0, j1, hag9⟩ := hp9
  rw [h9c]
  clear h9c z9
  generalize F9 = F3 at *
  have h2 : F3 (m + 2) = some (.inr (0, 8, fun b9 => .int (nI (l2 b9)))) := (hag9 _ (by omega)).trans h2
  have h3 : F3 (m + 3) = some (.inr (0, 8, fun b9 => .int (nI (v3 b9)))) := (hag9 _ (by omega)).trans h3
  have h4 : F3 (m + 4) = some (.inr (0, 8, fun b9 => .int (nI (r4 b9)))) := (hag9 _ (by omega)).trans h4
  have h5 : F3 (m + 5) = some (.inr (0, 8, fun b9 => .int (nI (w5 b9)))) := (hag9 _ (by omega)).trans h5
  have h6 : F3 (m + 6) = some (.inr (0, 112, fun b9 => .int (nI (b6 b9)))) := (hag9 _ (by omega)).trans h6
  have h8 : F3 (m + 8) = some (.inr (0, 17, fun b9 => .int (nI (b8 b9)))) := (hag9 _ (by omega)).trans h8
  have h9 : F3 (m + 9) = some (.inr (1, 40, fun b9 => .int (nI (ln b9)))) := (hag9 _ (by omega)).trans h9
  have hi : F3 (m + 10) = some (.inr (1, 60, fun b9 => .int (nI (ip b9)))) := (hag9 _ (by omega)).trans hi
  have hcm : F3 (m + 11) = some (.inr (0, 183, fun b9 => .int (nI (cs b9)))) := (hag9 _ (by omega)).trans hcm
  have h7 : F3 (m + 7) = some (.inr (0, 16, fun b9 => .int (nI (d1_6 b9)))) := (hag9 _ (by omega)).trans h7
  have o0 : F3 (m) = some (.inl (10, [.int (nI ((thC (codN (aRe A).1) 0 0 1 0))), .ref (m + 1), .int (nI ((if thC (codN (aRe A).1) 0 0 1 0 = 0 then endC un else un))), .int (nI (sv)), .int rs1, .ref (m + 2), .ref (m + 3), .ref (m + 4), .ref (m + 5), .ref (m + 6), .int (nI (bm)), .ref (m + 7), .int (nI (dm1_6)), .ref (m + 8), .ref (m + 9), .int (nI (lnn)), .ref (m + 10), .int (nI (pn)), .int (nI (he)), .int er, .int ep, .int fc, .ref (m + 11), .int (nI (cn))])) := j0
  have ga : F3 (m + 1) = some (.inr (0, 4730, fun b9 => .int (nI ((if thC (codN (aRe A).1) 0 0 1 0 = 0 then endG g1 un else cpyR g1 10 0) b9)))) := j1
  have hag : ∀ a9 : Nat, (a9 < m ∨ m + 12 ≤ a9) → F3 a9 = F a9 := fun a9 q0 => (hag9 a9 (by omega)).trans (hag a9 q0)
  have hg_13 := hag9
  clear hag9
  refine hret _ _ _ _ _ _ _ d_MessageCoderModel_receive_16 (by decide) (by decide) rfl ?_
  have hX9 : (codN (aRe A).1 = 0 ∧ ¬ (aRe A).1 < 0 ∧ thC (codN (aRe A).1) 0 0 1 0 = 0) ∨ (codN (aRe A).1 ≠ 0 ∧ (aRe A).1 < 0 ∧ (aRe A).2 = A ∧ thC (codN (aRe A).1) 0 0 1 0 ≠ 0) := by
    rcases res_Re A iA with e9 | e9
    · exact Or.inl ⟨codN_pos e9, e9, by rw [codN_pos e9]; rfl⟩
    · exact Or.inr ⟨by rw [e9]; show ¬ codN (-3) = 0; decide, by rw [e9]; show (-3 : Int32) < 0; decide, by rw [e9], by rw [e9]; show ¬ thC (codN (-3)) 0 0 1 0 = 0; decide⟩
  have hX8 : (thC (codN (aRe A).1) 0 0 1 0 = 0 ∧ ¬ (aRe A).1 < 0) ∨ (thC (codN (aRe A).1) 0 0 1 0 ≠ 0 ∧ (aRe A).1 < 0 ∧ (aRe A).2 = A) := hX9.elim (fun h => Or.inl ⟨h.2.2, h.2.1⟩) (fun h => Or.inr ⟨h.2.2.2, h.2.1, h.2.2.1⟩)
  obtain ⟨hR, hU⟩ := chg_R hI hg (inv_Re iA) pr_6 po_6 hX8
  have hR : rMD (if thC (codN (aRe A).1) 0 0 1 0 = 0 then endG g1 un else cpyR g1 10 0) (chgM (A, S, past, (pn, psg), (lnn, lsg), sv, pp, un, ep, fc) (aRe A)) := hR
  have hU : (if thC (codN (aRe A).1) 0 0 1 0 = 0 then endC un else un) = chU (aRe A).1 un := hU
  have hV : (if thC (codN (aRe A).1) 0 0 1 0 = 0 then rs1 else nI 0) = (if codN (aRe A).1 = 0 then (aRe A).1 else nI 0) := by
    rcases hX9 with h | h
    · rw [if_pos h.2.2, if_pos h.1]; exact pv_6 h.1
    · rw [if_neg h.2.2.2, if_neg h.1]
  rw [hU] at o0
  exact ⟨congrArg (fun q => some (Value.int q)) hV, rfl, ⟨_, _, _, _, _, _, _, _, _, _, _, _, _, _, _, _, _, o0, ga, h2, h3, h4, h5, h6, h7, h8, h9, hi, hcm, hR, hln, hip⟩, hag⟩

