/-! codes: the order of symbols, and the values -/
theorem cntN_mono {p q : Nat → Bool} : ∀ k, (∀ j, j < k → p j = true → q j = true) → cntN p k ≤ cntN q k
  | 0, _ => Nat.le_refl 0
  | k + 1, h => by
    have h1 := cntN_mono k (fun j hj => h j (by omega))
    have h2 := h k (by omega)
    unfold cntN
    by_cases e : p k = true
    · rw [if_pos e, if_pos (h2 e)]; omega
    · rw [if_neg e]; split <;> omega
theorem cntN_le (p : Nat → Bool) : ∀ k, cntN p k ≤ k
  | 0 => Nat.le_refl 0
  | k + 1 => by
    have := cntN_le p k
    unfold cntN
    split <;> omega
theorem cntN_or {p q r : Nat → Bool} : ∀ k, (∀ j, j < k → (p j = true ↔ q j = true ∨ r j = true)) → (∀ j, j < k → ¬ (q j = true ∧ r j = true)) → cntN p k = cntN q k + cntN r k
  | 0, _, _ => rfl
  | k + 1, h, h2 => by
    have h1 := cntN_or k (fun j hj => h j (by omega)) (fun j hj => h2 j (by omega))
    have a := h k (by omega)
    have b := h2 k (by omega)
    unfold cntN
    rw [h1]
    by_cases e1 : q k = true <;> by_cases e2 : r k = true
    · exact absurd ⟨e1, e2⟩ b
    · rw [if_pos (a.mpr (Or.inl e1)), if_pos e1, if_neg e2]; omega
    · rw [if_pos (a.mpr (Or.inr e2)), if_neg e1, if_pos e2]; omega
    · rw [if_neg (fun e => (a.mp e).elim e1 e2), if_neg e1, if_neg e2]; omega
theorem cntN_upto {p : Nat → Bool} {s : Nat} : ∀ k, s ≤ k → cntN (fun i => p i && decide (i < s)) k = cntN p s
  | 0, h => by rw [show s = 0 by omega]; rfl
  | k + 1, h => by
    by_cases e : s = k + 1
    · subst e
      exact cntN_ext (k + 1) (fun j hj => by simp [hj])
    · rw [cntN, cntN_upto k (by omega)]
      simp [show ¬ k < s by omega]
theorem sumN_upto {f : Nat → Nat} {s : Nat} : ∀ k, s ≤ k → sumN (fun i => if i < s then f i else 0) k = sumN f s
  | 0, h => by rw [show s = 0 by omega]; rfl
  | k + 1, h => by
    by_cases e : s = k + 1
    · subst e
      exact sumN_ext (k + 1) (fun j hj => by simp [hj])
    · rw [sumN, sumN_upto k (by omega), if_neg (by omega), Nat.add_zero]
theorem sumN_cnt {p : Nat → Bool} : ∀ k, sumN (fun i => if p i = true then 1 else 0) k = cntN p k
  | 0 => rfl
  | k + 1 => by rw [sumN, cntN, sumN_cnt k]
def bef (ln : Nat → Nat) (i j : Nat) : Bool := decide (ln i < ln j ∨ (ln i = ln j ∧ i < j))
theorem bef_iff {ln : Nat → Nat} {i j : Nat} : bef ln i j = true ↔ (ln i < ln j ∨ (ln i = ln j ∧ i < j)) := by unfold bef; exact decide_eq_true_iff
/-- how many stand before j; its value as a code -/
def rkN (ln : Nat → Nat) (j : Nat) : Nat := cntN (fun i => bef ln i j) 8
def hVal (ln : Nat → Nat) (j : Nat) : Nat := sumN (fun i => if bef ln i j = true then 2 ^ (ln j - ln i) else 0) 8
theorem rk_lt {ln : Nat → Nat} {i j : Nat} (hi : i < 8) (h : bef ln i j = true) : rkN ln i < rkN ln j := by
  have h1 := cntN_one (p := fun k => bef ln k i || decide (k = i)) (q := fun k => bef ln k i) (x := i) 8 hi (by simp) (by
    cases e : bef ln i i
    · rfl
    · have := bef_iff.mp e; omega) (fun k hk hne => by simp [hne])
  have h2 := cntN_mono (p := fun k => bef ln k i || decide (k = i)) (q := fun k => bef ln k j) 8 (fun k hk hp => by
    rw [Bool.or_eq_true, decide_eq_true_iff] at hp
    rcases hp with hp | rfl
    · have a := bef_iff.mp hp
      have b := bef_iff.mp h
      exact bef_iff.mpr (by omega)
    · exact h)
  unfold rkN
  omega
theorem bef_tot {ln : Nat → Nat} {i j : Nat} (h : i ≠ j) : bef ln i j = true ∨ bef ln j i = true := by
  rw [bef_iff, bef_iff]
  omega
theorem rk_inj {ln : Nat → Nat} {i j : Nat} (hi : i < 8) (hj : j < 8) (h : rkN ln i = rkN ln j) : i = j := by
  by_cases e : i = j
  · exact e
  · rcases bef_tot (ln := ln) e with q | q
    · have := rk_lt hi q; omega
    · have := rk_lt hj q; omega
theorem rk_8 {ln : Nat → Nat} {j : Nat} (hj : j < 8) : rkN ln j < 8 := by
  have h1 := cntN_one (p := fun k => bef ln k j || decide (k = j)) (q := fun k => bef ln k j) (x := j) 8 hj (by simp) (by
    cases e : bef ln j j
    · rfl
    · have := bef_iff.mp e; omega) (fun k hk hne => by simp [hne])
  have h2 := cntN_le (fun k => bef ln k j || decide (k = j)) 8
  unfold rkN
  omega
theorem cntN_inj {f : Nat → Nat} (h : ∀ i j, i < 8 → j < 8 → f i = f j → i = j) (r : Nat) : ∀ k, k ≤ 8 → cntN (fun j => decide (f j = r)) k ≤ 1 ∧ (1 ≤ cntN (fun j => decide (f j = r)) k → ∃ j, j < k ∧ f j = r)
  | 0, _ => ⟨by unfold cntN; omega, fun q => absurd q (by unfold cntN; omega)⟩
  | k + 1, hk => by
    obtain ⟨h1, h2⟩ := cntN_inj h r k (by omega)
    unfold cntN
    by_cases e : f k = r
    · have h0 : cntN (fun j => decide (f j = r)) k = 0 := by
        rcases Nat.eq_zero_or_pos (cntN (fun j => decide (f j = r)) k) with q | q
        · exact q
        · obtain ⟨j, hj, hf⟩ := h2 q
          have := h j k (by omega) (by omega) (hf.trans e.symm)
          omega
      rw [h0]
      exact ⟨by simp [e], fun _ => ⟨k, by omega, e⟩⟩
    · rw [if_neg (by simp [e])]
      exact ⟨h1, fun q => by obtain ⟨j, hj, hf⟩ := h2 q; exact ⟨j, by omega, hf⟩⟩
theorem cntN_pig {f : Nat → Nat} (h : ∀ i j, i < 8 → j < 8 → f i = f j → i = j) : ∀ r, cntN (fun j => decide (f j < r)) 8 ≤ r
  | 0 => by
    have : cntN (fun j => decide (f j < 0)) 8 ≤ cntN (fun _ => false) 8 := cntN_mono 8 (fun j _ hp => absurd (of_decide_eq_true hp) (by omega))
    exact Nat.le_trans this (by decide)
  | r + 1 => by
    have h1 := cntN_pig h r
    have h2 := (cntN_inj h r 8 (by omega)).1
    have h3 := cntN_or (p := fun j => decide (f j < r + 1)) (q := fun j => decide (f j < r)) (r := fun j => decide (f j = r)) 8 (fun j _ => by
      rw [decide_eq_true_iff, decide_eq_true_iff, decide_eq_true_iff]; omega) (fun j _ => by
      rw [decide_eq_true_iff, decide_eq_true_iff]; omega)
    omega
theorem rk_surj (ln : Nat → Nat) {r : Nat} (hr : r < 8) : ∃ j, j < 8 ∧ rkN ln j = r := by
  have inj : ∀ i j, i < 8 → j < 8 → rkN ln i = rkN ln j → i = j := fun i j hi hj h => rk_inj hi hj h
  have hp := cntN_pig inj r
  -- an element of rank at least r with the least rank
  have key : ∀ n, (∃ j, j < 8 ∧ r ≤ rkN ln j ∧ rkN ln j < r + n) → ∃ j, j < 8 ∧ r ≤ rkN ln j ∧ ∀ i, i < 8 → bef ln i j = true → rkN ln i < r := by
    intro n
    induction n with
    | zero => rintro ⟨j, _, h1, h2⟩; omega
    | succ n ih =>
      rintro ⟨j, hj, h1, h2⟩
      by_cases e : ∃ i, i < 8 ∧ bef ln i j = true ∧ r ≤ rkN ln i
      · obtain ⟨i, hi, hb, hri⟩ := e
        have := rk_lt hi hb
        exact ih ⟨i, hi, hri, by omega⟩
      · exact ⟨j, hj, h1, fun i hi hb => by
          rcases Nat.lt_or_ge (rkN ln i) r with q | q
          · exact q
          · exact absurd ⟨i, hi, hb, q⟩ e⟩
  have hex : ∃ j, j < 8 ∧ r ≤ rkN ln j := by
    by_cases e : ∃ j, j < 8 ∧ r ≤ rkN ln j
    · exact e
    · exfalso
      have : cntN (fun _ => true) 8 ≤ cntN (fun j => decide (rkN ln j < r)) 8 := cntN_mono 8 (fun j hj _ => by
        rw [decide_eq_true_iff]
        rcases Nat.lt_or_ge (rkN ln j) r with q | q
        · exact q
        · exact absurd ⟨j, hj, q⟩ e)
      have h8 : cntN (fun _ => true) 8 = 8 := by decide
      omega
  obtain ⟨j0, hj0, hr0⟩ := hex
  obtain ⟨j, hj, h1, h2⟩ := key 8 ⟨j0, hj0, hr0, by have := rk_8 (ln := ln) hj0; omega⟩
  refine ⟨j, hj, ?_⟩
  have h3 : rkN ln j ≤ cntN (fun i => decide (rkN ln i < r)) 8 := cntN_mono 8 (fun i hi hb => by
    rw [decide_eq_true_iff]; exact h2 i hi hb)
  omega
/-- the first place where p holds; 8: none -/
def fstN (p : Nat → Bool) : Nat → Nat
  | 0 => 8
  | k + 1 => if fstN p k < 8 then fstN p k else if p k = true then k else 8
theorem fstN_none {p : Nat → Bool} : ∀ k, (∀ j, j < k → ¬ p j = true) → fstN p k = 8
  | 0, _ => rfl
  | k + 1, h => by
    unfold fstN
    rw [fstN_none k (fun j hj => h j (by omega)), if_neg (by omega), if_neg (h k (by omega))]
theorem fstN_at {p : Nat → Bool} {i : Nat} (hi : i < 8) (hp : p i = true) (h0 : ∀ j, j < i → ¬ p j = true) : ∀ k, i < k → k ≤ 8 → fstN p k = i
  | 0, h, _ => absurd h (by omega)
  | k + 1, h, h8 => by
    unfold fstN
    by_cases e : i = k
    · subst e
      rw [fstN_none i h0, if_neg (by omega), if_pos hp]
    · rw [fstN_at hi hp h0 k (by omega) (by omega), if_pos hi]
def hOrd (ln : Nat → Nat) (r : Nat) : Nat := fstN (fun j => decide (rkN ln j = r)) 8
theorem hOrd_rk {ln : Nat → Nat} {j : Nat} (hj : j < 8) : hOrd ln (rkN ln j) = j :=
  fstN_at hj (decide_eq_true rfl) (fun i hi e => by
    have := rk_inj (by omega) hj (of_decide_eq_true e)
    omega) 8 hj (by omega)
theorem hOrd_8 (ln : Nat → Nat) {r : Nat} (hr : r < 8) : hOrd ln r < 8 ∧ rkN ln (hOrd ln r) = r := by
  obtain ⟨j, hj, rfl⟩ := rk_surj ln hr
  rw [hOrd_rk hj]
  exact ⟨hj, rfl⟩
/-- one symbol's rank and value, met at its length's level -/
theorem rk_lvl {ln : Nat → Nat} {s l : Nat} (hs : s < 8) (hl : ln s = l) : rkN ln s = cntN (fun i => decide (ln i < l)) 8 + cntN (fun i => decide (ln i = l)) s := by
  unfold rkN
  rw [← cntN_upto (p := fun i => decide (ln i = l)) (s := s) 8 (by omega)]
  refine cntN_or 8 (fun j hj => ?_) (fun j hj => ?_)
  · rw [bef_iff, hl, decide_eq_true_iff, Bool.and_eq_true, decide_eq_true_iff, decide_eq_true_iff]
  · rw [decide_eq_true_iff, Bool.and_eq_true, decide_eq_true_iff]; omega
theorem val_lvl {ln : Nat → Nat} {s l : Nat} (hs : s < 8) (hl : ln s = l) : hVal ln s = sumN (fun i => if ln i < l then 2 ^ (l - ln i) else 0) 8 + cntN (fun i => decide (ln i = l)) s := by
  unfold hVal
  rw [← sumN_cnt, ← sumN_upto (f := fun i => if decide (ln i = l) = true then 1 else 0) (s := s) 8 (by omega), ← sumN_add]
  refine sumN_ext 8 (fun j hj => ?_)
  by_cases h1 : ln j < l
  · rw [if_pos (bef_iff.mpr (Or.inl (by omega))), if_pos h1, hl]
    simp [show ¬ ln j = l by omega]
  · by_cases h2 : ln j = l ∧ j < s
    · rw [if_pos (bef_iff.mpr (Or.inr (by omega))), if_neg h1, hl]
      simp [h2.1, h2.2]
    · rw [if_neg (fun e => by have := bef_iff.mp e; omega), if_neg h1]
      by_cases h3 : j < s
      · have : ¬ ln j = l := fun e => h2 ⟨e, h3⟩
        simp [this]
      · simp [h3]
theorem lvl_next {ln : Nat → Nat} {l : Nat} : sumN (fun i => if ln i < l then 2 ^ (l - ln i) else 0) 8 + cntN (fun i => decide (ln i = l)) 8 = sumN (fun i => if ln i < l + 1 then 2 ^ (l - ln i) else 0) 8 := by
  rw [← sumN_cnt, ← sumN_add]
  refine sumN_ext 8 (fun j hj => ?_)
  by_cases h1 : ln j < l
  · simp [h1, show ln j < l + 1 by omega, show ¬ ln j = l by omega]
  · by_cases h2 : ln j = l
    · simp [h2]
    · simp [h1, h2, show ¬ ln j < l + 1 by omega]
theorem lvl_dbl {ln : Nat → Nat} {l : Nat} (hl : 1 ≤ l) : sumN (fun i => if ln i < l then 2 ^ (l - 1 - ln i) else 0) 8 * 2 = sumN (fun i => if ln i < l then 2 ^ (l - ln i) else 0) 8 := by
  rw [Nat.mul_comm, ← sumN_mul]
  refine sumN_ext 8 (fun j hj => ?_)
  by_cases h1 : ln j < l
  · rw [if_pos h1, if_pos h1, show l - ln j = (l - 1 - ln j) + 1 by omega, Nat.pow_succ, Nat.mul_comm]
  · rw [if_neg h1, if_neg h1]
theorem lvl_cnt {ln : Nat → Nat} {l : Nat} : cntN (fun i => decide (ln i < l)) 8 + cntN (fun i => decide (ln i = l)) 8 = cntN (fun i => decide (ln i < l + 1)) 8 := by
  refine (cntN_or 8 (fun j _ => ?_) (fun j _ => ?_)).symm
  · rw [decide_eq_true_iff, decide_eq_true_iff, decide_eq_true_iff]; omega
  · rw [decide_eq_true_iff, decide_eq_true_iff]; omega
theorem lvl_bd (ln : Nat → Nat) {l : Nat} (hl : l ≤ 7) : sumN (fun i => if ln i < l then 2 ^ (l - ln i) else 0) 8 ≤ 1024 := by
  refine Nat.le_trans (sumN_bd 128 8 (fun j _ => ?_)) (by decide)
  split
  · exact Nat.pow_le_pow_right (by omega) (show l - ln j ≤ 7 by omega)
  · omega
theorem hVal_bd {ln : Nat → Nat} {j : Nat} (hl : ln j ≤ 7) : hVal ln j ≤ 1024 := by
  refine Nat.le_trans (sumN_bd 128 8 (fun i _ => ?_)) (by decide)
  split
  · exact Nat.pow_le_pow_right (by omega) (show ln j - ln i ≤ 7 by omega)
  · omega
/-- the weights of groups stay small -/
theorem hJ_bd {w : Nat → Nat} (hw : ∀ j, j < 8 → w j ≤ 99) : ∀ t, t ≤ 7 → ∀ j, j < 8 → (hJ w t).2.1 j ≤ 792
  | 0, _ => fun j hj => by have := hw j hj; show w j ≤ 792; omega
  | t + 1, ht => fun j hj => by
    have ih := hJ_bd hw t (by omega)
    have hi := hInv_J w t (by omega)
    obtain ⟨a1, a2, a3, a4, a5⟩ := hInv_two hi (by omega)
    show updN (hJ w t).2.1 _ _ j ≤ 792
    by_cases e : j = min (hJa (hJ w t)) (hJb (hJ w t))
    · rw [e, updN_eq, hi.2.2.2.2.1 _ a1 a4, hi.2.2.2.2.1 _ a2 a5, ← sumN_add]
      refine Nat.le_trans (sumN_bd 99 8 (fun i hi => ?_)) (by decide)
      have := hw i hi
      by_cases e1 : (hJ w t).1 i = hJa (hJ w t)
      · rw [if_pos e1, if_neg (by omega)]; omega
      · rw [if_neg e1]; split <;> omega
    · rw [updN_ne e]
      exact ih j hj
theorem hJ_sb {w : Nat → Nat} (hw : ∀ j, j < 8 → w j ≤ 99) {t : Nat} (ht : t ≤ 7) : (hJ w t).2.2.2 ≤ 5544 := by
  have hi := hInv_J w t ht
  rw [hi.2.2.2.2.2.1]
  refine Nat.le_trans (sumN_bd 693 8 (fun j hj => ?_)) (by decide)
  have h1 := hw j hj
  have h2 := hi.2.2.1 j hj
  calc w j * (hJ w t).2.2.1 j ≤ 99 * 7 := Nat.mul_le_mul h1 (by omega)
    _ = 693 := rfl
theorem hJ_succ (w : Nat → Nat) {i : Nat} (h : 1 ≤ i) : hJ w i = hJs (hJ w (i - 1)) := by
  obtain ⟨q, rfl⟩ : ∃ q, i = q + 1 := ⟨i - 1, by omega⟩
  rfl
