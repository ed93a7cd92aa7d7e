/-! the two readings agree: which command -/
theorem pa_ge {n : Nat} {s : Nat → Nat} {c : Nat} {q : pS} : q.1 ≤ (pPart n s c q).2.1 := by
  unfold pPart
  split
  · exact Nat.le_add_right _ _
  · split
    · exact pEnd_ge n
    · split
      · exact Nat.le_add_right _ _
      · split
        · unfold pSym
          split
          · exact Nat.le_succ _
          · exact Nat.le_refl _
        · unfold pSign
          split
          · exact Nat.le_succ _
          · exact Nat.le_refl _
theorem fo_ge {n : Nat} {s g : Nat → Nat} {a k : Nat} : (pForm n s g a k).2.1 ≤ (pForm n s g a (k + 1)).2.1 := by
  by_cases h : (pForm n s g a k).1 = true
  · rw [fo_go h]
    exact pa_ge
  · rw [fo_stop h]
    exact Nat.le_refl _
theorem fo_gj {n : Nat} {s g : Nat → Nat} {a k : Nat} : ∀ j, (pForm n s g a k).2.1 ≤ (pForm n s g a (k + j)).2.1
  | 0 => Nat.le_refl _
  | j + 1 => Nat.le_trans (fo_gj j) fo_ge
theorem tr_ge {n : Nat} {s : Nat → Nat} {a j : Nat} : a ≤ (pTry n s a j).2.1 := by
  have h := fo_gj (n := n) (s := s) (g := frm j) (a := a) (k := 0) (fln j)
  rw [Nat.zero_add] at h
  exact h
theorem cmd_one {n : Nat} {s : Nat → Nat} {a j : Nat} (hj : j < 10) (h0 : a < n ∧ s a = frm j 0) (hd : ∀ i, i < 10 → i ≠ j → frm i 0 ≠ frm j 0) : ((Qs (pTry n s a j)).2 = 0 → (pCmd n s a 10).1 = j) ∧ ((Qs (pTry n s a j)).2 ≠ 0 → (pCmd n s a 10).1 = 10 ∧ (pCmd n s a 10).2 + 1 = (Qs (pTry n s a j)).2) := by
  obtain ⟨h1, h2⟩ := pc_one (n := n) (s := s) (a := a) hj (fun i hi he => by
    obtain ⟨h3, h4⟩ := tr_no (n := n) (s := s) (a := a) hi (fun q => hd i hi he (q.2.symm.trans h0.2))
    exact ⟨h3, by rw [h4]; exact tr_ge⟩) tr_ge
  refine ⟨fun q => h1 (Qs_0.mp q), fun q => ?_⟩
  have hf : ¬ (pTry n s a j).1 = true := fun e => q (Qs_0.mpr e)
  obtain ⟨h3, h4⟩ := h2 hf
  exact ⟨h3, by rw [h4, Qs_f hf]⟩
theorem cmd_none {n : Nat} {s : Nat → Nat} {a : Nat} (h : ∀ j, j < 10 → ¬ (a < n ∧ s a = frm j 0)) : (pCmd n s a 10).1 = 10 ∧ (pCmd n s a 10).2 = a := by
  obtain ⟨h1, h2, h3, h4⟩ := pc_fail (n := n) (s := s) (a := a) 10 (fun i hi => (tr_no hi (h i hi)).1)
  refine ⟨h1, ?_⟩
  rcases h4 with h5 | ⟨i, h5, h6⟩
  · exact h5
  · rw [h6]
    exact (tr_no h5 (h i h5)).2
theorem nd_ge {n : Nat} {s : Nat → Nat} {c : Nat} {q : Nat × Nat} : q.1 ≤ (nd n s c q).1 := by
  unfold nd
  split
  · split
    · exact Nat.le_succ _
    · exact Nat.le_refl _
  · exact Nat.le_refl _
theorem nd_err {n : Nat} {s : Nat → Nat} {c : Nat} {q : Nat × Nat} (h : q.2 ≠ 0) : nd n s c q = q := if_neg h
theorem cmd_d {n : Nat} {s : Nat → Nat} {a : Nat} (h0 : a < n ∧ s a = 100) : (ddQ n s (a + 1, 0)).2 = Qs (pTry n s a (if (ddQ n s (a + 1, 0)).1 = true then 1 else 4)) ∧ ((ddQ n s (a + 1, 0)).2.2 = 0 → (pCmd n s a 10).1 = if (ddQ n s (a + 1, 0)).1 = true then 1 else 4) ∧ ((ddQ n s (a + 1, 0)).2.2 ≠ 0 → (pCmd n s a 10).1 = 10 ∧ (pCmd n s a 10).2 + 1 = (ddQ n s (a + 1, 0)).2.2) := by
  have t1 := (tr_1 h0).1
  have t4 := (tr_4 h0).1
  have hoth : ∀ i, i < 10 → i ≠ 1 → i ≠ 4 → ¬ (pTry n s a i).1 = true ∧ (pTry n s a i).2.1 = a := fun i hi e1 e4 => tr_no hi (fun q => by
    have hx : ∀ i, i < 10 → i ≠ 1 → i ≠ 4 → frm i 0 ≠ 100 := by decide +kernel
    exact hx i hi e1 e4 (q.2.symm.trans h0.2))
  have key : ∀ j, (j = 1 ∨ j = 4) → (∀ i, (i = 1 ∨ i = 4) → i ≠ j → ¬ (pTry n s a i).1 = true ∧ (pTry n s a i).2.1 ≤ (pTry n s a j).2.1) → ((Qs (pTry n s a j)).2 = 0 → (pCmd n s a 10).1 = j) ∧ ((Qs (pTry n s a j)).2 ≠ 0 → (pCmd n s a 10).1 = 10 ∧ (pCmd n s a 10).2 + 1 = (Qs (pTry n s a j)).2) := by
    intro j hj hi
    obtain ⟨h1, h2⟩ := pc_one (n := n) (s := s) (a := a) (j := j) (by omega) (fun i hi9 he => by
      by_cases c : i = 1 ∨ i = 4
      · exact hi i c he
      · obtain ⟨h3, h4⟩ := hoth i hi9 (by omega) (by omega)
        exact ⟨h3, by rw [h4]; exact tr_ge⟩) tr_ge
    refine ⟨fun q => h1 (Qs_0.mp q), fun q => ?_⟩
    have hf : ¬ (pTry n s a j).1 = true := fun e => q (Qs_0.mpr e)
    obtain ⟨h3, h4⟩ := h2 hf
    exact ⟨h3, by rw [h4, Qs_f hf]⟩
  generalize hp : nd n s 114 (a + 1, 0) = p at t1 t4
  have hd : ddQ n s (a + 1, 0) = if p.2 = 0 ∧ p.1 < n ∧ s p.1 = 97 then (true, dfQ n s p) else (false, (bh n s 32 3 (nd n s 112 (nd n s 111 p))).1) := by
    unfold ddQ
    rw [hp]
  by_cases c : p.2 = 0 ∧ p.1 < n ∧ s p.1 = 97
  · rw [hd, if_pos c, if_pos rfl]
    refine ⟨t1.symm, ?_⟩
    rw [show (dfQ n s p).2 = (Qs (pTry n s a 1)).2 by rw [t1]]
    refine key 1 (Or.inl rfl) (fun i hi he => ?_)
    obtain rfl : i = 4 := by omega
    have e1 : nd n s 111 p = (p.1, p.1 + 1) := (if_pos c.1).trans (if_neg (fun q => by have := q.2.symm.trans c.2.2; omega))
    have e2 : Qs (pTry n s a 4) = (p.1, p.1 + 1) := by
      rw [t4, e1, nd_err (Nat.succ_ne_zero _)]
      unfold bh
      rw [nd_err (Nat.succ_ne_zero _), if_neg (Nat.succ_ne_zero _)]
    refine ⟨fun q => ?_, ?_⟩
    · have := Qs_0.mpr q
      rw [e2] at this
      exact absurd this (Nat.succ_ne_zero _)
    · rw [← Qs_1, e2, ← Qs_1, t1]
      unfold dfQ
      have g1 : p.1 ≤ (dfP n s p).1 := Nat.le_trans nd_ge (Nat.le_trans nd_ge (Nat.le_trans nd_ge nd_ge))
      split
      · split
        · exact Nat.le_trans g1 (pEnd_ge n)
        · exact g1
      · exact g1
  · rw [hd, if_neg c, if_neg (show ¬ false = true by decide)]
    refine ⟨t4.symm, ?_⟩
    rw [show (bh n s 32 3 (nd n s 112 (nd n s 111 p))).1.2 = (Qs (pTry n s a 4)).2 by rw [t4]]
    refine key 4 (Or.inr rfl) (fun i hi he => ?_)
    obtain rfl : i = 1 := by omega
    have e1 : ∃ z, dfP n s p = (p.1, z + 1) := by
      unfold dfP
      by_cases z0 : p.2 = 0
      · have e2 : nd n s 97 p = (p.1, p.1 + 1) := (if_pos z0).trans (if_neg (fun q => c ⟨z0, q⟩))
        rw [e2, nd_err (Nat.succ_ne_zero _), nd_err (Nat.succ_ne_zero _), nd_err (Nat.succ_ne_zero _)]
        exact ⟨_, rfl⟩
      · rw [nd_err (q := p) z0, nd_err z0, nd_err z0, nd_err z0]
        exact ⟨p.2 - 1, Prod.ext rfl (by show p.2 = p.2 - 1 + 1; omega)⟩
    obtain ⟨z, e1⟩ := e1
    have e2 : Qs (pTry n s a 1) = (p.1, z + 1) := by
      rw [t1]
      unfold dfQ
      rw [e1, if_neg (Nat.succ_ne_zero _)]
    refine ⟨fun q => ?_, ?_⟩
    · have := Qs_0.mpr q
      rw [e2] at this
      exact absurd this (Nat.succ_ne_zero _)
    · rw [← Qs_1, e2, ← Qs_1, t4]
      have g1 : p.1 ≤ (nd n s 32 (nd n s 112 (nd n s 111 p))).1 := Nat.le_trans nd_ge (Nat.le_trans nd_ge nd_ge)
      unfold bh
      split
      · split
        · exact Nat.le_trans g1 (Nat.le_add_right _ _)
        · exact g1
      · exact g1

