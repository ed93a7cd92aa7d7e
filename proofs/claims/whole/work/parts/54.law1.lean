/-! the law: what holds before call number j -/
def sB (j t : Nat) (A : aS) : Prop := A.2.2.1.2.1 + t ≤ j ∧ A.2.2.2.2.2.2.1 + t ≤ j ∧ A.2.2.2.2.2.2.2.2 ≤ A.2.2.2.2.2.2.1
def allS (Q : aS → Prop) (M : mcS) : Prop := Q M.1 ∧ (∀ k, k < M.2.2.2.2.2.2.2.1 → Q (M.2.2.1 ((M.2.2.2.2.2.2.1 - 1 - k) % 9))) ∧ (0 < M.2.2.2.2.2.1 → Q M.2.1)
def lwJ (j : Nat) (M : mcS) : Prop := mInv M ∧ allS (sB j M.2.2.2.1.1) M ∧ M.2.2.2.2.2.2.1 ≤ j
theorem allS_m {Q R : aS → Prop} {M : mcS} (h : allS Q M) (f : ∀ A, Q A → R A) : allS R M := ⟨f _ h.1, fun k hk => f _ (h.2.1 k hk), fun hs => f _ (h.2.2 hs)⟩
theorem allS_chg {Q : aS → Prop} {M : mcS} {r : Int32 × aS} (h : allS Q M) (hu8 : M.2.2.2.2.2.2.2.1 ≤ 8) (hup : M.2.2.2.2.2.2.2.1 ≤ M.2.2.2.2.2.2.1) (hr : Q r.2) : allS Q (chgM M r) := by
  obtain ⟨A, S, past, inp, lin, sv, pp, un, ep, fc⟩ := M
  obtain ⟨iA, iP, iS⟩ := h
  change Q A at iA
  change ∀ i, i < un → Q (past ((pp - 1 - i) % 9)) at iP
  change un ≤ 8 at hu8
  change un ≤ pp at hup
  refine ⟨hr, ?_, iS⟩
  show ∀ i, i < chU r.1 un → Q (updA past (pp % 9) A ((chP r.1 pp - 1 - i) % 9))
  intro i hi
  by_cases e : (chP r.1 pp - 1 - i) % 9 = pp % 9
  · rw [e, updA_eq]; exact iA
  · rw [updA_ne e]
    unfold chU at hi
    unfold chP at e ⊢
    by_cases c : r.1 < 0
    · rw [if_pos c] at hi ⊢
      exact iP i hi
    · rw [if_neg c] at hi e ⊢
      have h2 : un1 un ≤ un + 1 := by unfold un1; split <;> omega
      have h3 : i ≠ 0 := fun h => e (by rw [h]; omega)
      rw [show (pp + 1 - 1 - i) % 9 = (pp - 1 - (i - 1)) % 9 by omega]
      exact iP (i - 1) (by omega)
theorem allS_runO {Q : aS → Prop} {M : mcS} {R : rS} (h : allS Q M) (hu8 : M.2.2.2.2.2.2.2.1 ≤ 8) (hup : M.2.2.2.2.2.2.2.1 ≤ M.2.2.2.2.2.2.1) (hB : Q (prgS R.2.2.1 M.1 R.2.2.1.1).2.2) : allS Q (runO M R) := by
  obtain ⟨A, S, past, inp, lin, sv, pp, un, ep, fc⟩ := M
  change Q (prgS R.2.2.1 A R.2.2.1.1).2.2 at hB
  by_cases hk : (prgS R.2.2.1 A R.2.2.1.1).1 = true
  · have e1 : prgA R.2.2.1 A = (prgS R.2.2.1 A R.2.2.1.1).2.2 := if_pos hk
    have e2 : prgP R.2.2.1 A pp = pp + 1 := if_pos hk
    have e3 : prgU R.2.2.1 A un = un1 un := if_pos hk
    have h1 := allS_chg (r := ((0 : Int32), (prgS R.2.2.1 A R.2.2.1.1).2.2)) h hu8 hup hB
    have c1 : chP 0 pp = pp + 1 := if_neg (by decide)
    have c2 : chU 0 un = un1 un := if_neg (by decide)
    have ec : chgM (A, S, past, inp, lin, sv, pp, un, ep, fc) ((0 : Int32), (prgS R.2.2.1 A R.2.2.1.1).2.2) = ((prgS R.2.2.1 A R.2.2.1.1).2.2, S, updA past (pp % 9) A, inp, lin, sv, pp + 1, un1 un, ep, fc) := by
      show ((prgS R.2.2.1 A R.2.2.1.1).2.2, S, updA past (pp % 9) A, inp, lin, sv, chP 0 pp, chU 0 un, ep, fc) = _
      rw [c1, c2]
    rw [ec] at h1
    show allS Q (prgA R.2.2.1 A, S, updA past (pp % 9) A, (0, inp.2), lin, sv, prgP R.2.2.1 A pp, prgU R.2.2.1 A un, ep, if (prgS R.2.2.1 A R.2.2.1.1).1 = true then fc else prgV R.2.2.1 A)
    rw [e1, e2, e3]
    exact ⟨h1.1, h1.2.1, h1.2.2⟩
  · have e1 : prgA R.2.2.1 A = A := if_neg hk
    have e2 : prgP R.2.2.1 A pp = pp := if_neg hk
    have e3 : prgU R.2.2.1 A un = un := if_neg hk
    have h1 := allS_chg (r := ((-1 : Int32), A)) h hu8 hup h.1
    have c1 : chP (-1) pp = pp := if_pos (by decide)
    have c2 : chU (-1) un = un := if_pos (by decide)
    have ec : chgM (A, S, past, inp, lin, sv, pp, un, ep, fc) ((-1 : Int32), A) = (A, S, updA past (pp % 9) A, inp, lin, sv, pp, un, ep, fc) := by
      show (A, S, updA past (pp % 9) A, inp, lin, sv, chP (-1) pp, chU (-1) un, ep, fc) = _
      rw [c1, c2]
    rw [ec] at h1
    show allS Q (prgA R.2.2.1 A, S, updA past (pp % 9) A, (0, inp.2), lin, sv, prgP R.2.2.1 A pp, prgU R.2.2.1 A un, ep, if (prgS R.2.2.1 A R.2.2.1.1).1 = true then fc else prgV R.2.2.1 A)
    rw [e1, e2, e3]
    exact ⟨h1.1, h1.2.1, h1.2.2⟩
/-- one change: no more than one id, one frame received -/
def sC (A B : aS) : Prop := B.2.2.1.2.1 ≤ A.2.2.1.2.1 + 1 ∧ B.2.2.2.2.2.2.1 ≤ A.2.2.2.2.2.2.1 + 1 ∧ (A.2.2.2.2.2.2.2.2 ≤ A.2.2.2.2.2.2.1 → B.2.2.2.2.2.2.2.2 ≤ B.2.2.2.2.2.2.1)
theorem sC_r (A : aS) : sC A A := ⟨Nat.le_succ _, Nat.le_succ _, id⟩
theorem sC_Wt (A : aS) (c : Nat) (x : Int32) : sC A (aWt A c x).2 := by
  unfold aWt
  split <;> exact ⟨Nat.le_succ _, Nat.le_succ _, id⟩
theorem sC_Dr (A : aS) (c : Nat) : sC A (aDr A c).2 := by
  unfold aDr
  repeat' split
  all_goals exact ⟨Nat.le_succ _, Nat.le_succ _, id⟩
theorem sC_Cl (A : aS) : sC A (aCl A).2 := ⟨Nat.le_succ _, Nat.le_succ _, id⟩
theorem sC_Po (A : aS) (p : Int32) : sC A (aPo A p).2 := by
  unfold aPo
  repeat' split
  · exact ⟨Nat.le_succ _, Nat.le_succ _, id⟩
  · exact ⟨Nat.le_refl _, Nat.le_succ _, id⟩
  · exact ⟨Nat.le_succ _, Nat.le_succ _, id⟩
theorem sC_Di (A : aS) (v : Int32) : sC A (aDi A v).2 := by
  unfold aDi
  split <;> exact ⟨Nat.le_succ _, Nat.le_succ _, id⟩
theorem sC_Hu (A : aS) (v p : Int32) : sC A (aHu A v p).2 := by
  unfold aHu
  repeat' split
  all_goals exact ⟨Nat.le_succ _, Nat.le_succ _, id⟩
theorem sC_Le (A : aS) (v : Int32) : sC A (aLe A v).2 := by
  unfold aLe
  split <;> exact ⟨Nat.le_succ _, Nat.le_succ _, id⟩
theorem sC_Se (A : aS) : sC A (aSe A).2 := by
  unfold aSe
  split <;> exact ⟨Nat.le_succ _, Nat.le_succ _, id⟩
theorem sC_Fl (A : aS) (v : Int32) : sC A (aFl A v).2 := by
  unfold aFl
  split <;> exact ⟨Nat.le_succ _, Nat.le_succ _, id⟩
theorem sC_Re (A : aS) : sC A (aRe A).2 := by
  unfold aRe
  split
  · refine ⟨Nat.le_succ _, Nat.le_refl _, fun h => ?_⟩
    show (if sameA A then A.2.2.2.2.2.2.2.2 else A.2.2.2.2.2.2.2.2 + 1) ≤ A.2.2.2.2.2.2.1 + 1
    split <;> omega
  · exact ⟨Nat.le_succ _, Nat.le_succ _, id⟩
theorem sC_Do (A : aS) (j c x : Nat) : sC A (aDo A j c x).2 := by
  unfold aDo
  repeat' split
  · exact sC_Wt _ _ _
  · exact sC_Dr _ _
  · exact sC_Cl _
  · exact sC_Po _ _
  · exact sC_Di _ _
  · exact sC_Hu _ _ _
  · exact sC_Le _ _
  · exact sC_Se _
  · exact sC_Fl _ _
  · exact sC_Re _
theorem sB_C {j t : Nat} {A B : aS} (h : sB j t A) (c : sC A B) : sB (j + 1) t B := by
  obtain ⟨h1, h2, h3⟩ := h
  obtain ⟨c1, c2, c3⟩ := c
  exact ⟨by omega, by omega, c3 h3⟩
theorem sB_m {j t i u : Nat} {A : aS} (h : sB j t A) (h9 : j + u ≤ i + t) : sB i u A := by
  obtain ⟨h1, h2, h3⟩ := h
  exact ⟨by omega, by omega, h3⟩
theorem prgS_sB {K : kS} {A : aS} {j t : Nat} (h : sB j t A) : ∀ k, sB (j + k) t (prgS K A k).2.2
  | 0 => h
  | k + 1 => by
    have ih := prgS_sB (K := K) h k
    unfold prgS
    split
    · split
      · exact sB_m ih (by omega)
      · exact sB_C ih (sC_Do _ _ _ _)
    · exact sB_m ih (by omega)
theorem lwJ_0 : lwJ 0 mc0 := ⟨inv_mc0, ⟨⟨Nat.le_refl 0, Nat.le_refl 0, Nat.le_refl 0⟩, fun k hk => absurd hk (Nat.not_lt_zero k), fun h => absurd h (Nat.lt_irrefl 0)⟩, Nat.le_refl 0⟩
theorem lwJ_s {j : Nat} {M : mcS} (h : lwJ j M) : lwJ (j + 1) M := ⟨h.1, allS_m h.2.1 (fun A hA => sB_m hA (by omega)), Nat.le_succ_of_le h.2.2⟩
theorem lwJ_chg {j : Nat} {M : mcS} {r : Int32 × aS} (h : lwJ j M) (hA : aInv r.2) (hC : sC M.1 r.2) : lwJ (j + 1) (chgM M r) := by
  obtain ⟨h1, h2, h3⟩ := h
  have hq : allS (sB (j + 1) M.2.2.2.1.1) M := allS_m h2 (fun A hA => sB_m (u := M.2.2.2.1.1) hA (by omega))
  have h4 : allS (sB (j + 1) M.2.2.2.1.1) (chgM M r) := allS_chg hq h1.2.2.2.1 h1.2.2.2.2.1 (sB_C h2.1 hC)
  refine ⟨inv_chg h1 hA, h4, ?_⟩
  show chP r.1 M.2.2.2.2.2.2.1 ≤ j + 1
  unfold chP
  split <;> omega
theorem lwJ_und {j : Nat} {M : mcS} (h : lwJ j M) (hu : 0 < M.2.2.2.2.2.2.2.1) : lwJ (j + 1) (undM M) := by
  refine ⟨inv_und h.1 hu, ?_, ?_⟩
  · obtain ⟨A, S, past, inp, lin, sv, pp, un, ep, fc⟩ := M
    have hup : un ≤ pp := h.1.2.2.2.2.1
    have hq := allS_m h.2.1 (fun A hA => sB_m (i := j + 1) (u := inp.1) hA (by show j + inp.1 ≤ j + 1 + inp.1; omega))
    refine ⟨hq.2.1 0 hu, ?_, hq.2.2⟩
    have hP : ∀ i, i < un → sB (j + 1) inp.1 (past ((pp - 1 - i) % 9)) := hq.2.1
    show ∀ i, i < un - 1 → sB (j + 1) inp.1 (past ((pp - 1 - 1 - i) % 9))
    intro i hi
    rw [show pp - 1 - 1 - i = pp - 1 - (i + 1) by omega]
    exact hP (i + 1) (by omega)
  · have := h.2.2
    show M.2.2.2.2.2.2.1 - 1 ≤ j + 1
    omega
theorem lwJ_sav {j : Nat} {M : mcS} (h : lwJ j M) : lwJ (j + 1) (savM M) := by
  have hq := allS_m h.2.1 (fun A hA => sB_m (i := j + 1) (u := M.2.2.2.1.1) hA (by omega))
  exact ⟨inv_sav h.1, ⟨hq.1, hq.2.1, fun _ => hq.1⟩, Nat.le_succ_of_le h.2.2⟩
theorem lwJ_res {j : Nat} {M : mcS} (h : lwJ j M) (hs : 0 < M.2.2.2.2.2.1) : lwJ (j + 1) (resM M) := by
  have hq := allS_m h.2.1 (fun A hA => sB_m (i := j + 1) (u := M.2.2.2.1.1) hA (by omega))
  exact ⟨inv_res h.1 hs, ⟨hq.2.2 hs, fun i hi => absurd hi (Nat.not_lt_zero i), hq.2.2⟩, Nat.le_succ_of_le h.2.2⟩
theorem lwJ_app {j : Nat} {M : mcS} (h : lwJ j M) {c : Nat} (hc : c < 65536) (h60 : M.2.2.2.1.1 < 60) : lwJ (j + 1) (setI M (M.2.2.2.1.1 + 1) (updN M.2.2.2.1.2 M.2.2.2.1.1 c)) := by
  have hq := allS_m h.2.1 (fun A hA => sB_m (i := j + 1) (u := M.2.2.2.1.1 + 1) hA (by omega))
  exact ⟨inv_app h.1 hc h60, ⟨hq.1, hq.2.1, hq.2.2⟩, Nat.le_succ_of_le h.2.2⟩
theorem lwJ_lin {j : Nat} {M : mcS} (h : lwJ j M) {F : xF} {cm : cmT} {b n : Nat} {s : Nat → Nat} (hM : xMC F cm b (setL M n s)) : lwJ (j + 1) (setL M n s) := by
  have hq := allS_m h.2.1 (fun A hA => sB_m (i := j + 1) (u := M.2.2.2.1.1) hA (by omega))
  obtain ⟨b0, hs, hv, -, -, hin, hli, -⟩ := hM
  have hI := h.1
  exact ⟨⟨hI.1, hI.2.1, hI.2.2.1, hI.2.2.2.1, hI.2.2.2.2.1, hI.2.2.2.2.2.1, hI.2.2.2.2.2.2.1, hli.2.1.1, hI.2.2.2.2.2.2.2.2.1, hli.2.2.1⟩, ⟨hq.1, hq.2.1, hq.2.2⟩, Nat.le_succ_of_le h.2.2⟩
/-- what a run rests on -/
theorem lw_run {j : Nat} {M : mcS} {R : rS} (h : lwJ j M) (hj : j < 999) (hR : rdS M.2.2.2.1.1 M.2.2.2.1.2 60 = R) : rdOk R ∧ M.1.2.2.1.2.1 + R.2.2.1.1 ≤ 999 ∧ R.2.2.1.1 ≤ M.2.2.2.1.1 := by
  have h1 := rdS_ok (n := M.2.2.2.1.1) (s := M.2.2.2.1.2) h.1.2.2.2.2.2.2.1 h.1.2.2.2.2.2.2.2.2.1 60
  rw [hR] at h1
  have h2 := h.2.1.1.1
  exact ⟨h1.1, by omega, h1.2⟩
theorem lwJ_runE {j : Nat} {M : mcS} (h : lwJ j M) (R : rS) : lwJ (j + 1) (runE M R) := by
  have hq := allS_m h.2.1 (fun A hA => sB_m (i := j + 1) (u := 0) hA (by omega))
  exact ⟨inv_runE h.1 R, ⟨hq.1, hq.2.1, hq.2.2⟩, Nat.le_succ_of_le h.2.2⟩
theorem lwJ_runO {j : Nat} {M : mcS} {R : rS} (h : lwJ j M) (hK : R.2.2.1.1 ≤ M.2.2.2.1.1) (hn : M.1.2.2.1.2.1 + R.2.2.1.1 < 1000) : lwJ (j + 1) (runO M R) := by
  have hq := allS_m h.2.1 (fun A hA => sB_m (i := j + 1) (u := 0) hA (by omega))
  have h5 : sB (j + 1) 0 (prgS R.2.2.1 M.1 R.2.2.1.1).2.2 := sB_m (prgS_sB (K := R.2.2.1) h.2.1.1 R.2.2.1.1) (by omega)
  refine ⟨inv_runO h.1 hn, allS_runO hq h.1.2.2.2.1 h.1.2.2.2.2.1 h5, ?_⟩
  have := h.2.2
  show prgP R.2.2.1 M.1 M.2.2.2.2.2.2.1 ≤ j + 1
  unfold prgP
  split <;> omega

