/-! the two readings agree: form by form -/
theorem fo_back {n : Nat} {s g : Nat → Nat} {a k : Nat} (h : (pForm n s g a (k + 1)).1 = true) : (pForm n s g a k).1 = true := Decidable.not_not.mp (fun q => q (by rw [fo_stop q] at h; exact h))
theorem fo_pre {n : Nat} {s g : Nat → Nat} {a : Nat} : ∀ K, (∀ i, i < K → (g i ≠ 68 ∧ g i ≠ 76 ∧ g i ≠ 78 ∧ g i ≠ 83) ∧ g i ≠ 0) → (pForm n s g a K).1 = true → (pForm n s g a K).2.2 = (0, 0, 0)
  | 0, _, _ => rfl
  | K + 1, hp, h => ((fo_sign (n := n) (s := s) (a := a) _ rfl (hp K (by omega)).1 (hp K (by omega)).2).2 h).trans (fo_pre K (fun i hi => hp i (by omega)) (fo_back h))
theorem fo_sym {n : Nat} {s g : Nat → Nat} {a k : Nat} (hg : g k = 83) : Qs (pForm n s g a (k + 1)) = (syQ n s (Qs (pForm n s g a k))).1 ∧ ((pForm n s g a (k + 1)).1 = true → (pForm n s g a (k + 1)).2.2 = gv3 (pForm n s g a k).2.2.1 (pForm n s g a k).2.2.2.1 (pForm n s g a k).2.2.2.2 (syQ n s (Qs (pForm n s g a k))).2) := by
  by_cases h : (pForm n s g a k).1 = true
  · rw [fo_go h, hg, show pPart n s 83 (pForm n s g a k).2 = pSym n s (pForm n s g a k).2 from rfl, Qs_t h]
    unfold pSym syQ
    by_cases e : isSy (sgN n s (pForm n s g a k).2.1)
    · have e2 := sy_N.mp e
      rw [if_pos e, if_pos rfl, if_pos e2]
      exact ⟨rfl, fun _ => by
        show gv3 _ _ _ (sgN n s (pForm n s g a k).2.1) = gv3 _ _ _ (s (pForm n s g a k).2.1)
        rw [show sgN n s (pForm n s g a k).2.1 = s (pForm n s g a k).2.1 from if_pos e2.1]⟩
    · rw [if_neg e, if_pos rfl, if_neg (fun q => e (sy_N.mpr q))]
      exact ⟨rfl, fun q => absurd (show false = true from q) (by decide)⟩
  · rw [fo_stop h, Qs_f h]
    unfold syQ
    rw [if_neg (Nat.succ_ne_zero _)]
    exact ⟨rfl, fun q => absurd q h⟩
theorem pEnd_ge {n : Nat} {s : Nat → Nat} {a : Nat} : ∀ k, a ≤ pEnd n s a k
  | 0 => Nat.le_refl a
  | k + 1 => by
    have h := pEnd_ge (n := n) (s := s) (a := a) k
    unfold pEnd
    split <;> omega
theorem fo_syms {n : Nat} {s g : Nat → Nat} {a k : Nat} (hg : g k = 76) : Qs (pForm n s g a (k + 1)) = (if (Qs (pForm n s g a k)).2 = 0 then if (Qs (pForm n s g a k)).1 < pEnd n s (Qs (pForm n s g a k)).1 n then (pEnd n s (Qs (pForm n s g a k)).1 n, 0) else ((Qs (pForm n s g a k)).1, (Qs (pForm n s g a k)).1 + 1) else Qs (pForm n s g a k)) ∧ ((pForm n s g a (k + 1)).1 = true → (pForm n s g a k).2.2 = (0, 0, 0) → (pForm n s g a (k + 1)).2.2.1 = (Qs (pForm n s g a k)).1 ∧ (pForm n s g a (k + 1)).2.2.2.1 = (pForm n s g a (k + 1)).2.1) := by
  by_cases h : (pForm n s g a k).1 = true
  · rw [fo_go h, hg, show pPart n s 76 (pForm n s g a k).2 = pSyms n s (pForm n s g a k).2 from rfl, Qs_t h, if_pos rfl]
    unfold pSyms
    refine ⟨?_, fun _ hz => ?_⟩
    · by_cases e : (pForm n s g a k).2.1 < pEnd n s (pForm n s g a k).2.1 n
      · rw [if_pos e, Qs_t (decide_eq_true e)]
        rfl
      · have e2 := pEnd_ge (n := n) (s := s) (a := (pForm n s g a k).2.1) n
        have e3 : pEnd n s (pForm n s g a k).2.1 n = (pForm n s g a k).2.1 := by omega
        rw [if_neg e, Qs_f (fun q => e (of_decide_eq_true q))]
        show (pEnd n s (pForm n s g a k).2.1 n, pEnd n s (pForm n s g a k).2.1 n + 1) = _
        rw [e3]
    · unfold pAt pGv
      rw [hz]
      exact ⟨rfl, rfl⟩
  · rw [fo_stop h, Qs_f h, if_neg (Nat.succ_ne_zero _)]
    exact ⟨rfl, fun q => absurd q h⟩
theorem fo_p {n : Nat} {s : Nat → Nat} {a j K : Nat} (hp : ∀ i, i < K → (frm j i ≠ 68 ∧ frm j i ≠ 76 ∧ frm j i ≠ 78 ∧ frm j i ≠ 83) ∧ frm j i ≠ 0) (h : (pForm n s (frm j) a K).1 = true) : (pForm n s (frm j) a K).2.2 = (0, 0, 0) := fo_pre K hp h
theorem tr_0 {n : Nat} {s : Nat → Nat} {a : Nat} (h0 : a < n ∧ s a = 119) : Qs (pTry n s a 0) = (bh n s 61 3 (syQ n s (nd n s 32 (nd n s 116 (nd n s 104 (nd n s 103 (nd n s 105 (nd n s 101 (a + 1, 0)))))))).1).1 ∧ ((pTry n s a 0).1 = true → (pTry n s a 0).2.2 = ((syQ n s (nd n s 32 (nd n s 116 (nd n s 104 (nd n s 103 (nd n s 105 (nd n s 101 (a + 1, 0)))))))).2, (bh n s 61 3 (syQ n s (nd n s 32 (nd n s 116 (nd n s 104 (nd n s 103 (nd n s 105 (nd n s 101 (a + 1, 0)))))))).1).2, 1)) := by
  have hc : Qs (pForm n s (frm 0) a 7) = (nd n s 32 (nd n s 116 (nd n s 104 (nd n s 103 (nd n s 105 (nd n s 101 (a + 1, 0))))))) := by
    rw [(fo_sign (n := n) (s := s) (g := frm 0) (a := a) (k := 6) 32 rfl (by decide) (by decide)).1, (fo_sign (n := n) (s := s) (g := frm 0) (a := a) (k := 5) 116 rfl (by decide) (by decide)).1, (fo_sign (n := n) (s := s) (g := frm 0) (a := a) (k := 4) 104 rfl (by decide) (by decide)).1, (fo_sign (n := n) (s := s) (g := frm 0) (a := a) (k := 3) 103 rfl (by decide) (by decide)).1, (fo_sign (n := n) (s := s) (g := frm 0) (a := a) (k := 2) 105 rfl (by decide) (by decide)).1, (fo_sign (n := n) (s := s) (g := frm 0) (a := a) (k := 1) 101 rfl (by decide) (by decide)).1, (fo_sign (n := n) (s := s) (g := frm 0) (a := a) (k := 0) 119 rfl (by decide) (by decide)).1, show Qs (pForm n s (frm 0) a 0) = (a, 0) from rfl, nd_hit h0]
  obtain ⟨h1, h2⟩ := fo_sym (n := n) (s := s) (g := frm 0) (a := a) (k := 7) rfl
  obtain ⟨h3, h4⟩ := fo_num (n := n) (s := s) (g := frm 0) (a := a) (k := 8) (m := 3) 61 rfl (by decide) (by decide) (by decide)
  rw [hc] at h1 h2
  rw [h1] at h3 h4
  refine ⟨h3, fun h => (h4 h).trans ?_⟩
  have h7 := fo_back (fo_back h)
  rw [h2 h7, fo_p (j := 0) (K := 7) (by decide) (fo_back h7)]
  rfl
theorem tr_1 {n : Nat} {s : Nat → Nat} {a : Nat} (h0 : a < n ∧ s a = 100) : Qs (pTry n s a 1) = dfQ n s (nd n s 114 (a + 1, 0)) ∧ ((pTry n s a 1).1 = true → (pTry n s a 1).2.2.1 = (dfP n s (nd n s 114 (a + 1, 0))).1 ∧ (pTry n s a 1).2.2.2.1 = (pTry n s a 1).2.1) := by
  have hc : Qs (pForm n s (frm 1) a 6) = dfP n s (nd n s 114 (a + 1, 0)) := by
    show _ = (nd n s 32 (nd n s 116 (nd n s 102 (nd n s 97 (nd n s 114 (a + 1, 0))))))
    rw [(fo_sign (n := n) (s := s) (g := frm 1) (a := a) (k := 5) 32 rfl (by decide) (by decide)).1, (fo_sign (n := n) (s := s) (g := frm 1) (a := a) (k := 4) 116 rfl (by decide) (by decide)).1, (fo_sign (n := n) (s := s) (g := frm 1) (a := a) (k := 3) 102 rfl (by decide) (by decide)).1, (fo_sign (n := n) (s := s) (g := frm 1) (a := a) (k := 2) 97 rfl (by decide) (by decide)).1, (fo_sign (n := n) (s := s) (g := frm 1) (a := a) (k := 1) 114 rfl (by decide) (by decide)).1, (fo_sign (n := n) (s := s) (g := frm 1) (a := a) (k := 0) 100 rfl (by decide) (by decide)).1, show Qs (pForm n s (frm 1) a 0) = (a, 0) from rfl, nd_hit h0]
  obtain ⟨h1, h2⟩ := fo_syms (n := n) (s := s) (g := frm 1) (a := a) (k := 6) rfl
  rw [hc] at h1 h2
  exact ⟨h1, fun h => h2 h (fo_p (by decide) (fo_back h))⟩
theorem tr_2 {n : Nat} {s : Nat → Nat} {a : Nat} (h0 : a < n ∧ s a = 99) : Qs (pTry n s a 2) = (nd n s 114 (nd n s 97 (nd n s 101 (nd n s 108 (a + 1, 0))))) := by
  show Qs (pForm n s (frm 2) a 5) = _
  rw [(fo_sign (n := n) (s := s) (g := frm 2) (a := a) (k := 4) 114 rfl (by decide) (by decide)).1, (fo_sign (n := n) (s := s) (g := frm 2) (a := a) (k := 3) 97 rfl (by decide) (by decide)).1, (fo_sign (n := n) (s := s) (g := frm 2) (a := a) (k := 2) 101 rfl (by decide) (by decide)).1, (fo_sign (n := n) (s := s) (g := frm 2) (a := a) (k := 1) 108 rfl (by decide) (by decide)).1, (fo_sign (n := n) (s := s) (g := frm 2) (a := a) (k := 0) 99 rfl (by decide) (by decide)).1, show Qs (pForm n s (frm 2) a 0) = (a, 0) from rfl, nd_hit h0]
theorem tr_3 {n : Nat} {s : Nat → Nat} {a : Nat} (h0 : a < n ∧ s a = 112) : Qs (pTry n s a 3) = (bh n s 32 1 (nd n s 116 (nd n s 115 (nd n s 111 (a + 1, 0))))).1 ∧ ((pTry n s a 3).1 = true → (pTry n s a 3).2.2 = ((bh n s 32 1 (nd n s 116 (nd n s 115 (nd n s 111 (a + 1, 0))))).2, 0, 1)) := by
  have hc : Qs (pForm n s (frm 3) a 4) = (nd n s 116 (nd n s 115 (nd n s 111 (a + 1, 0)))) := by
    rw [(fo_sign (n := n) (s := s) (g := frm 3) (a := a) (k := 3) 116 rfl (by decide) (by decide)).1, (fo_sign (n := n) (s := s) (g := frm 3) (a := a) (k := 2) 115 rfl (by decide) (by decide)).1, (fo_sign (n := n) (s := s) (g := frm 3) (a := a) (k := 1) 111 rfl (by decide) (by decide)).1, (fo_sign (n := n) (s := s) (g := frm 3) (a := a) (k := 0) 112 rfl (by decide) (by decide)).1, show Qs (pForm n s (frm 3) a 0) = (a, 0) from rfl, nd_hit h0]
  obtain ⟨h1, h2⟩ := fo_num (n := n) (s := s) (g := frm 3) (a := a) (k := 4) (m := 1) 32 rfl (by decide) (by decide) (by decide)
  rw [hc] at h1 h2
  refine ⟨h1, fun h => (h2 h).trans ?_⟩
  rw [fo_p (j := 3) (K := 4) (by decide) (fo_back (fo_back h))]
  rfl
theorem tr_4 {n : Nat} {s : Nat → Nat} {a : Nat} (h0 : a < n ∧ s a = 100) : Qs (pTry n s a 4) = (bh n s 32 3 (nd n s 112 (nd n s 111 (nd n s 114 (a + 1, 0))))).1 ∧ ((pTry n s a 4).1 = true → (pTry n s a 4).2.2 = ((bh n s 32 3 (nd n s 112 (nd n s 111 (nd n s 114 (a + 1, 0))))).2, 0, 1)) := by
  have hc : Qs (pForm n s (frm 4) a 4) = (nd n s 112 (nd n s 111 (nd n s 114 (a + 1, 0)))) := by
    rw [(fo_sign (n := n) (s := s) (g := frm 4) (a := a) (k := 3) 112 rfl (by decide) (by decide)).1, (fo_sign (n := n) (s := s) (g := frm 4) (a := a) (k := 2) 111 rfl (by decide) (by decide)).1, (fo_sign (n := n) (s := s) (g := frm 4) (a := a) (k := 1) 114 rfl (by decide) (by decide)).1, (fo_sign (n := n) (s := s) (g := frm 4) (a := a) (k := 0) 100 rfl (by decide) (by decide)).1, show Qs (pForm n s (frm 4) a 0) = (a, 0) from rfl, nd_hit h0]
  obtain ⟨h1, h2⟩ := fo_num (n := n) (s := s) (g := frm 4) (a := a) (k := 4) (m := 3) 32 rfl (by decide) (by decide) (by decide)
  rw [hc] at h1 h2
  refine ⟨h1, fun h => (h2 h).trans ?_⟩
  rw [fo_p (j := 4) (K := 4) (by decide) (fo_back (fo_back h))]
  rfl
theorem tr_5 {n : Nat} {s : Nat → Nat} {a : Nat} (h0 : a < n ∧ s a = 104) : Qs (pTry n s a 5) = (bh n s 32 1 (bh n s 32 3 (nd n s 121 (nd n s 114 (nd n s 114 (nd n s 117 (a + 1, 0)))))).1).1 ∧ ((pTry n s a 5).1 = true → (pTry n s a 5).2.2 = ((bh n s 32 3 (nd n s 121 (nd n s 114 (nd n s 114 (nd n s 117 (a + 1, 0)))))).2, (bh n s 32 1 (bh n s 32 3 (nd n s 121 (nd n s 114 (nd n s 114 (nd n s 117 (a + 1, 0)))))).1).2, 1)) := by
  have hc : Qs (pForm n s (frm 5) a 5) = (nd n s 121 (nd n s 114 (nd n s 114 (nd n s 117 (a + 1, 0))))) := by
    rw [(fo_sign (n := n) (s := s) (g := frm 5) (a := a) (k := 4) 121 rfl (by decide) (by decide)).1, (fo_sign (n := n) (s := s) (g := frm 5) (a := a) (k := 3) 114 rfl (by decide) (by decide)).1, (fo_sign (n := n) (s := s) (g := frm 5) (a := a) (k := 2) 114 rfl (by decide) (by decide)).1, (fo_sign (n := n) (s := s) (g := frm 5) (a := a) (k := 1) 117 rfl (by decide) (by decide)).1, (fo_sign (n := n) (s := s) (g := frm 5) (a := a) (k := 0) 104 rfl (by decide) (by decide)).1, show Qs (pForm n s (frm 5) a 0) = (a, 0) from rfl, nd_hit h0]
  obtain ⟨h1, h2⟩ := fo_num (n := n) (s := s) (g := frm 5) (a := a) (k := 5) (m := 3) 32 rfl (by decide) (by decide) (by decide)
  obtain ⟨h3, h4⟩ := fo_num (n := n) (s := s) (g := frm 5) (a := a) (k := 7) (m := 1) 32 rfl (by decide) (by decide) (by decide)
  rw [hc] at h1 h2
  rw [h1] at h3 h4
  refine ⟨h3, fun h => (h4 h).trans ?_⟩
  have h7 := fo_back (fo_back h)
  rw [h2 h7, fo_p (j := 5) (K := 5) (by decide) (fo_back (fo_back h7))]
  rfl
theorem tr_6 {n : Nat} {s : Nat → Nat} {a : Nat} (h0 : a < n ∧ s a = 108) : Qs (pTry n s a 6) = (bh n s 32 3 (nd n s 110 (nd n s 114 (nd n s 97 (nd n s 101 (a + 1, 0)))))).1 ∧ ((pTry n s a 6).1 = true → (pTry n s a 6).2.2 = ((bh n s 32 3 (nd n s 110 (nd n s 114 (nd n s 97 (nd n s 101 (a + 1, 0)))))).2, 0, 1)) := by
  have hc : Qs (pForm n s (frm 6) a 5) = (nd n s 110 (nd n s 114 (nd n s 97 (nd n s 101 (a + 1, 0))))) := by
    rw [(fo_sign (n := n) (s := s) (g := frm 6) (a := a) (k := 4) 110 rfl (by decide) (by decide)).1, (fo_sign (n := n) (s := s) (g := frm 6) (a := a) (k := 3) 114 rfl (by decide) (by decide)).1, (fo_sign (n := n) (s := s) (g := frm 6) (a := a) (k := 2) 97 rfl (by decide) (by decide)).1, (fo_sign (n := n) (s := s) (g := frm 6) (a := a) (k := 1) 101 rfl (by decide) (by decide)).1, (fo_sign (n := n) (s := s) (g := frm 6) (a := a) (k := 0) 108 rfl (by decide) (by decide)).1, show Qs (pForm n s (frm 6) a 0) = (a, 0) from rfl, nd_hit h0]
  obtain ⟨h1, h2⟩ := fo_num (n := n) (s := s) (g := frm 6) (a := a) (k := 5) (m := 3) 32 rfl (by decide) (by decide) (by decide)
  rw [hc] at h1 h2
  refine ⟨h1, fun h => (h2 h).trans ?_⟩
  rw [fo_p (j := 6) (K := 5) (by decide) (fo_back (fo_back h))]
  rfl
theorem tr_7 {n : Nat} {s : Nat → Nat} {a : Nat} (h0 : a < n ∧ s a = 115) : Qs (pTry n s a 7) = (nd n s 100 (nd n s 110 (nd n s 101 (a + 1, 0)))) := by
  show Qs (pForm n s (frm 7) a 4) = _
  rw [(fo_sign (n := n) (s := s) (g := frm 7) (a := a) (k := 3) 100 rfl (by decide) (by decide)).1, (fo_sign (n := n) (s := s) (g := frm 7) (a := a) (k := 2) 110 rfl (by decide) (by decide)).1, (fo_sign (n := n) (s := s) (g := frm 7) (a := a) (k := 1) 101 rfl (by decide) (by decide)).1, (fo_sign (n := n) (s := s) (g := frm 7) (a := a) (k := 0) 115 rfl (by decide) (by decide)).1, show Qs (pForm n s (frm 7) a 0) = (a, 0) from rfl, nd_hit h0]
theorem tr_8 {n : Nat} {s : Nat → Nat} {a : Nat} (h0 : a < n ∧ s a = 102) : Qs (pTry n s a 8) = (bh n s 32 3 (nd n s 112 (nd n s 105 (nd n s 108 (a + 1, 0))))).1 ∧ ((pTry n s a 8).1 = true → (pTry n s a 8).2.2 = ((bh n s 32 3 (nd n s 112 (nd n s 105 (nd n s 108 (a + 1, 0))))).2, 0, 1)) := by
  have hc : Qs (pForm n s (frm 8) a 4) = (nd n s 112 (nd n s 105 (nd n s 108 (a + 1, 0)))) := by
    rw [(fo_sign (n := n) (s := s) (g := frm 8) (a := a) (k := 3) 112 rfl (by decide) (by decide)).1, (fo_sign (n := n) (s := s) (g := frm 8) (a := a) (k := 2) 105 rfl (by decide) (by decide)).1, (fo_sign (n := n) (s := s) (g := frm 8) (a := a) (k := 1) 108 rfl (by decide) (by decide)).1, (fo_sign (n := n) (s := s) (g := frm 8) (a := a) (k := 0) 102 rfl (by decide) (by decide)).1, show Qs (pForm n s (frm 8) a 0) = (a, 0) from rfl, nd_hit h0]
  obtain ⟨h1, h2⟩ := fo_num (n := n) (s := s) (g := frm 8) (a := a) (k := 4) (m := 3) 32 rfl (by decide) (by decide) (by decide)
  rw [hc] at h1 h2
  refine ⟨h1, fun h => (h2 h).trans ?_⟩
  rw [fo_p (j := 8) (K := 4) (by decide) (fo_back (fo_back h))]
  rfl
theorem tr_9 {n : Nat} {s : Nat → Nat} {a : Nat} (h0 : a < n ∧ s a = 114) : Qs (pTry n s a 9) = (nd n s 101 (nd n s 118 (nd n s 105 (nd n s 101 (nd n s 99 (nd n s 101 (a + 1, 0))))))) := by
  show Qs (pForm n s (frm 9) a 7) = _
  rw [(fo_sign (n := n) (s := s) (g := frm 9) (a := a) (k := 6) 101 rfl (by decide) (by decide)).1, (fo_sign (n := n) (s := s) (g := frm 9) (a := a) (k := 5) 118 rfl (by decide) (by decide)).1, (fo_sign (n := n) (s := s) (g := frm 9) (a := a) (k := 4) 105 rfl (by decide) (by decide)).1, (fo_sign (n := n) (s := s) (g := frm 9) (a := a) (k := 3) 101 rfl (by decide) (by decide)).1, (fo_sign (n := n) (s := s) (g := frm 9) (a := a) (k := 2) 99 rfl (by decide) (by decide)).1, (fo_sign (n := n) (s := s) (g := frm 9) (a := a) (k := 1) 101 rfl (by decide) (by decide)).1, (fo_sign (n := n) (s := s) (g := frm 9) (a := a) (k := 0) 114 rfl (by decide) (by decide)).1, show Qs (pForm n s (frm 9) a 0) = (a, 0) from rfl, nd_hit h0]

