/-! the two readings agree: sign by sign -/
def Qs (b : Bool × pS) : Nat × Nat := if b.1 = true then (b.2.1, 0) else (b.2.1, b.2.1 + 1)
theorem Qs_t {b : Bool × pS} (h : b.1 = true) : Qs b = (b.2.1, 0) := if_pos h
theorem Qs_f {b : Bool × pS} (h : ¬ b.1 = true) : Qs b = (b.2.1, b.2.1 + 1) := if_neg h
theorem Qs_0 {b : Bool × pS} : (Qs b).2 = 0 ↔ b.1 = true := by
  unfold Qs
  by_cases h : b.1 = true
  · rw [if_pos h]; exact ⟨fun _ => h, fun _ => rfl⟩
  · rw [if_neg h]; exact ⟨fun q => absurd q (Nat.succ_ne_zero _), fun q => absurd q h⟩
theorem Qs_1 (b : Bool × pS) : (Qs b).1 = b.2.1 := by
  unfold Qs
  split <;> rfl
theorem sgN_c {n : Nat} {s : Nat → Nat} {a c : Nat} (hc : c ≠ 0) : sgN n s a = c ↔ (a < n ∧ s a = c) := by
  unfold sgN
  by_cases h : a < n
  · rw [if_pos h]; exact ⟨fun e => ⟨h, e⟩, fun e => e.2⟩
  · rw [if_neg h]; exact ⟨fun e => absurd e.symm hc, fun e => absurd e.1 h⟩
theorem fo_stop {n : Nat} {s g : Nat → Nat} {a k : Nat} (h : ¬ (pForm n s g a k).1 = true) : pForm n s g a (k + 1) = pForm n s g a k := if_neg h
theorem fo_go {n : Nat} {s g : Nat → Nat} {a k : Nat} (h : (pForm n s g a k).1 = true) : pForm n s g a (k + 1) = pPart n s (g k) (pForm n s g a k).2 := if_pos h
theorem pa_sign {n : Nat} {s : Nat → Nat} {c : Nat} {q : pS} (hc : c ≠ 68 ∧ c ≠ 76 ∧ c ≠ 78 ∧ c ≠ 83) : pPart n s c q = pSign n s c q := by
  unfold pPart
  rw [if_neg hc.1, if_neg hc.2.1, if_neg hc.2.2.1, if_neg hc.2.2.2]
theorem fo_sign {n : Nat} {s g : Nat → Nat} {a k : Nat} (c : Nat) (hg : g k = c) (hc : c ≠ 68 ∧ c ≠ 76 ∧ c ≠ 78 ∧ c ≠ 83) (h0 : c ≠ 0) : Qs (pForm n s g a (k + 1)) = nd n s c (Qs (pForm n s g a k)) ∧ ((pForm n s g a (k + 1)).1 = true → (pForm n s g a (k + 1)).2.2 = (pForm n s g a k).2.2) := by
  by_cases h : (pForm n s g a k).1 = true
  · rw [fo_go h, hg, pa_sign hc, Qs_t h]
    unfold pSign nd
    by_cases e : sgN n s (pForm n s g a k).2.1 = c
    · rw [if_pos e, if_pos rfl, if_pos ((sgN_c h0).mp e)]
      exact ⟨rfl, fun _ => rfl⟩
    · rw [if_neg e, if_pos rfl, if_neg (fun q => e ((sgN_c h0).mpr q))]
      exact ⟨rfl, fun q => absurd (show false = true from q) (by decide)⟩
  · rw [fo_stop h, Qs_f h]
    unfold nd
    rw [if_neg (Nat.succ_ne_zero _)]
    exact ⟨rfl, fun q => absurd q h⟩
theorem fo_num {n : Nat} {s g : Nat → Nat} {a k m : Nat} (c : Nat) (hg : g k = c) (hc : c ≠ 68 ∧ c ≠ 76 ∧ c ≠ 78 ∧ c ≠ 83) (h0 : c ≠ 0) (hm : (g (k + 1) = 68 ∧ m = 1) ∨ (g (k + 1) = 78 ∧ m = 3)) : Qs (pForm n s g a (k + 2)) = (bh n s c m (Qs (pForm n s g a k))).1 ∧ ((pForm n s g a (k + 2)).1 = true → (pForm n s g a (k + 2)).2.2 = gv3 (pForm n s g a k).2.2.1 (pForm n s g a k).2.2.2.1 (pForm n s g a k).2.2.2.2 (bh n s c m (Qs (pForm n s g a k))).2) := by
  obtain ⟨h1, h2⟩ := fo_sign (n := n) (s := s) (a := a) c hg hc h0
  have hpa : ∀ q, pPart n s (g (k + 1)) q = pNum n s m q := fun q => by
    unfold pPart
    rcases hm with ⟨e1, e2⟩ | ⟨e1, e2⟩
    · rw [e1, e2]; rfl
    · rw [e1, e2]; rfl
  unfold bh
  rw [← h1]
  by_cases h : (pForm n s g a (k + 1)).1 = true
  · rw [if_pos (Qs_0.mpr h), Qs_1]
    have e : pForm n s g a (k + 2) = pNum n s m (pForm n s g a (k + 1)).2 := (fo_go h).trans (hpa _)
    rw [e]
    unfold pNum
    by_cases d : 0 < (pDg n s (pForm n s g a (k + 1)).2.1 m).1
    · rw [if_pos d]
      refine ⟨?_, fun _ => ?_⟩
      · rw [Qs_t (decide_eq_true d)]; rfl
      · show gv3 _ _ _ _ = _
        rw [h2 h]
    · rw [if_neg d]
      refine ⟨?_, fun q => absurd (of_decide_eq_true q) d⟩
      rw [Qs_f (fun q => d (of_decide_eq_true q))]
      have hz : (pDg n s (pForm n s g a (k + 1)).2.1 m).1 = 0 := by omega
      show ((pForm n s g a (k + 1)).2.1 + (pDg n s (pForm n s g a (k + 1)).2.1 m).1, (pForm n s g a (k + 1)).2.1 + (pDg n s (pForm n s g a (k + 1)).2.1 m).1 + 1) = _
      rw [hz, Nat.add_zero]
  · rw [if_neg (fun q => h (Qs_0.mp q)), show pForm n s g a (k + 2) = pForm n s g a (k + 1) from fo_stop h]
    exact ⟨rfl, fun q => absurd q h⟩
theorem nd_hit {n : Nat} {s : Nat → Nat} {c a : Nat} (h : a < n ∧ s a = c) : nd n s c (a, 0) = (a + 1, 0) := (if_pos rfl).trans (if_pos h)
theorem nd_no {n : Nat} {s : Nat → Nat} {c a : Nat} (h : ¬ (a < n ∧ s a = c)) : nd n s c (a, 0) = (a, a + 1) := (if_pos rfl).trans (if_neg h)
theorem frm_1 : ∀ j, j < 10 → (frm j 0 ≠ 68 ∧ frm j 0 ≠ 76 ∧ frm j 0 ≠ 78 ∧ frm j 0 ≠ 83) ∧ frm j 0 ≠ 0 ∧ 1 ≤ fln j := by decide +kernel
theorem tr_no {n : Nat} {s : Nat → Nat} {a j : Nat} (hj : j < 10) (h : ¬ (a < n ∧ s a = frm j 0)) : ¬ (pTry n s a j).1 = true ∧ (pTry n s a j).2.1 = a := by
  obtain ⟨h1, h2, h3⟩ := frm_1 j hj
  have h4 := (fo_sign (n := n) (s := s) (g := frm j) (a := a) (k := 0) _ rfl h1 h2).1
  have h5 : Qs (pForm n s (frm j) a 1) = (a, a + 1) := h4.trans (nd_no h)
  have h6 : ¬ (pForm n s (frm j) a 1).1 = true := fun q => by
    have h7 := Qs_0.mpr q
    rw [h5] at h7
    exact absurd h7 (Nat.succ_ne_zero a)
  have h7 : (pForm n s (frm j) a 1).2.1 = a := by rw [← Qs_1, h5]
  have h8 := pForm_stop (n := n) (s := s) (g := frm j) (a := a) (k := 1) (by
    cases h9 : (pForm n s (frm j) a 1).1
    · rfl
    · exact absurd h9 h6) (fln j - 1)
  have h9 : pTry n s a j = pForm n s (frm j) a 1 := by
    show pForm n s (frm j) a (fln j) = _
    rw [show fln j = 1 + (fln j - 1) by omega]
    exact h8
  rw [h9]
  exact ⟨h6, h7⟩
theorem pc_fail {n : Nat} {s : Nat → Nat} {a : Nat} : ∀ k, (∀ i, i < k → ¬ (pTry n s a i).1 = true) → (pCmd n s a k).1 = k ∧ a ≤ (pCmd n s a k).2 ∧ (∀ i, i < k → (pTry n s a i).2.1 ≤ (pCmd n s a k).2) ∧ ((pCmd n s a k).2 = a ∨ ∃ i, i < k ∧ (pCmd n s a k).2 = (pTry n s a i).2.1)
  | 0, _ => ⟨rfl, Nat.le_refl a, fun i hi => absurd hi (Nat.not_lt_zero i), Or.inl rfl⟩
  | k + 1, h => by
    obtain ⟨h1, h2, h3, h4⟩ := pc_fail k (fun i hi => h i (by omega))
    have e : pCmd n s a (k + 1) = (k + 1, if (pCmd n s a k).2 < (pTry n s a k).2.1 then (pTry n s a k).2.1 else (pCmd n s a k).2) := by
      show (if (pCmd n s a k).1 < k then pCmd n s a k else if (pTry n s a k).1 = true then (k, (pCmd n s a k).2) else (k + 1, if (pCmd n s a k).2 < (pTry n s a k).2.1 then (pTry n s a k).2.1 else (pCmd n s a k).2)) = _
      rw [if_neg (by omega), if_neg (h k (by omega))]
    rw [e]
    refine ⟨rfl, ?_, fun i hi => ?_, ?_⟩
    · show a ≤ if _ then _ else _
      split <;> omega
    · show (pTry n s a i).2.1 ≤ if _ then _ else _
      by_cases c : i = k
      · subst c
        split <;> omega
      · have := h3 i (by omega)
        split <;> omega
    · dsimp only
      split
      · exact Or.inr ⟨k, by omega, rfl⟩
      · rcases h4 with h5 | ⟨i, h5, h6⟩
        · exact Or.inl h5
        · exact Or.inr ⟨i, by omega, h6⟩
theorem pc_one {n : Nat} {s : Nat → Nat} {a j : Nat} (hj : j < 10) (ho : ∀ i, i < 10 → i ≠ j → ¬ (pTry n s a i).1 = true ∧ (pTry n s a i).2.1 ≤ (pTry n s a j).2.1) (ha : a ≤ (pTry n s a j).2.1) : ((pTry n s a j).1 = true → (pCmd n s a 10).1 = j) ∧ (¬ (pTry n s a j).1 = true → (pCmd n s a 10).1 = 10 ∧ (pCmd n s a 10).2 = (pTry n s a j).2.1) := by
  constructor
  · intro h
    have h1 := (pc_fail (n := n) (s := s) (a := a) j (fun i hi => (ho i (by omega) (by omega)).1)).1
    exact pCmd_hit (fu := (pCmd n s a j).2) (Prod.ext h1 rfl) h hj
  · intro h
    obtain ⟨h1, h2, h3, h4⟩ := pc_fail (n := n) (s := s) (a := a) 10 (fun i hi => (Decidable.em (i = j)).elim (fun e => by rw [e]; exact h) (fun e => (ho i hi e).1))
    refine ⟨h1, ?_⟩
    have h5 := h3 j hj
    rcases h4 with h6 | ⟨i, h6, h7⟩
    · omega
    · by_cases e : i = j
      · rw [h7, e]
      · have := (ho i h6 e).2
        omega

