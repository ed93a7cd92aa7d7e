/-! codes: the joining of groups as functions -/
/-- the lowest group among the first k, but b; 8: none -/
def lowN (gr gw : Nat → Nat) (b : Nat) : Nat → Nat
  | 0 => 8
  | k + 1 => if gr k = k ∧ k ≠ b ∧ (lowN gr gw b k = 8 ∨ gw k < gw (lowN gr gw b k)) then k else lowN gr gw b k
theorem lowN_le (gr gw : Nat → Nat) (b : Nat) : ∀ k, lowN gr gw b k = 8 ∨ lowN gr gw b k < k
  | 0 => Or.inl rfl
  | k + 1 => by
    have h := lowN_le gr gw b k
    unfold lowN
    split
    · exact Or.inr (by omega)
    · rcases h with h | h
      · exact Or.inl h
      · exact Or.inr (by omega)
theorem lowN_8 (gr gw : Nat → Nat) (b : Nat) {k : Nat} (hk : k ≤ 8) : lowN gr gw b k ≤ 8 := by
  rcases lowN_le gr gw b k with h | h <;> omega
theorem lowN_root (gr gw : Nat → Nat) (b : Nat) : ∀ k, lowN gr gw b k ≠ 8 → gr (lowN gr gw b k) = lowN gr gw b k ∧ lowN gr gw b k ≠ b
  | 0, h => absurd rfl h
  | k + 1, h => by
    unfold lowN at h ⊢
    split
    · rename_i hc
      exact ⟨hc.1, hc.2.1⟩
    · rename_i hc
      rw [if_neg hc] at h
      exact lowN_root gr gw b k h
theorem lowN_ne (gr gw : Nat → Nat) (b : Nat) : ∀ k, k ≤ 8 → (∃ j, j < k ∧ gr j = j ∧ j ≠ b) → lowN gr gw b k ≠ 8
  | 0, _, ⟨j, hj, _⟩ => absurd hj (by omega)
  | k + 1, hk, ⟨j, hj, h1, h2⟩ => by
    unfold lowN
    split
    · omega
    · rename_i hc
      by_cases e : j = k
      · subst e
        intro e8
        exact hc ⟨h1, h2, Or.inl e8⟩
      · exact lowN_ne gr gw b k (by omega) ⟨j, by omega, h1, h2⟩
theorem lowN_ext {gr gw gr2 gw2 : Nat → Nat} (b : Nat) : ∀ k, k ≤ 8 → (∀ j, j < 8 → gr j = gr2 j) → (∀ j, j < 8 → gw j = gw2 j) → lowN gr gw b k = lowN gr2 gw2 b k
  | 0, _, _, _ => rfl
  | k + 1, hk, h1, h2 => by
    have ih := lowN_ext b k (by omega) h1 h2
    unfold lowN
    rw [ih, h1 k (by omega), h2 k (by omega)]
    rcases lowN_le gr2 gw2 b k with h | h
    · simp [h]
    · rw [h2 (lowN gr2 gw2 b k) (by omega)]
/-- groups, their weights, lengths, the sum of joins -/
abbrev hS : Type := (Nat → Nat) × (Nat → Nat) × (Nat → Nat) × Nat
def hJ0 (w : Nat → Nat) : hS := (fun j => j, w, fun _ => 0, 0)
def hJa (s : hS) : Nat := lowN s.1 s.2.1 8 8
def hJb (s : hS) : Nat := lowN s.1 s.2.1 (hJa s) 8
def hJs (s : hS) : hS :=
  (fun j => if s.1 j = hJa s ∨ s.1 j = hJb s then min (hJa s) (hJb s) else s.1 j,
   updN s.2.1 (min (hJa s) (hJb s)) (s.2.1 (hJa s) + s.2.1 (hJb s)),
   fun j => if s.1 j = hJa s ∨ s.1 j = hJb s then s.2.2.1 j + 1 else s.2.2.1 j,
   s.2.2.2 + (s.2.1 (hJa s) + s.2.1 (hJb s)))
def hJ (w : Nat → Nat) : Nat → hS
  | 0 => hJ0 w
  | t + 1 => hJs (hJ w t)
def hLen (w : Nat → Nat) : Nat → Nat := (hJ w 7).2.2.1
def hSum (w : Nat → Nat) : Nat := (hJ w 7).2.2.2
/-- sums and counts over the first k -/
def sumN (f : Nat → Nat) : Nat → Nat
  | 0 => 0
  | k + 1 => sumN f k + f k
theorem sumN_ext {f g : Nat → Nat} : ∀ k, (∀ j, j < k → f j = g j) → sumN f k = sumN g k
  | 0, _ => rfl
  | k + 1, h => by rw [sumN, sumN, sumN_ext k (fun j hj => h j (by omega)), h k (by omega)]
theorem sumN_add (f g : Nat → Nat) : ∀ k, sumN (fun j => f j + g j) k = sumN f k + sumN g k
  | 0 => rfl
  | k + 1 => by rw [sumN, sumN, sumN, sumN_add f g k]; omega
theorem sumN_mul (c : Nat) (f : Nat → Nat) : ∀ k, sumN (fun j => c * f j) k = c * sumN f k
  | 0 => rfl
  | k + 1 => by rw [sumN, sumN, sumN_mul c f k, Nat.mul_add]
theorem sumN_le {f g : Nat → Nat} : ∀ k, (∀ j, j < k → f j ≤ g j) → sumN f k ≤ sumN g k
  | 0, _ => Nat.le_refl _
  | k + 1, h => by
    have h1 := sumN_le k (fun j hj => h j (by omega))
    have h2 := h k (by omega)
    unfold sumN
    omega
theorem sumN_bd {f : Nat → Nat} (c : Nat) : ∀ k, (∀ j, j < k → f j ≤ c) → sumN f k ≤ c * k
  | 0, _ => Nat.zero_le _
  | k + 1, h => by
    have h1 := sumN_bd c k (fun j hj => h j (by omega))
    have h2 := h k (by omega)
    unfold sumN
    rw [Nat.mul_add]
    omega
def cntN (p : Nat → Bool) : Nat → Nat
  | 0 => 0
  | k + 1 => cntN p k + if p k then 1 else 0
theorem cntN_ext {p q : Nat → Bool} : ∀ k, (∀ j, j < k → p j = q j) → cntN p k = cntN q k
  | 0, _ => rfl
  | k + 1, h => by rw [cntN, cntN, cntN_ext k (fun j hj => h j (by omega)), h k (by omega)]
theorem cntN_one {p q : Nat → Bool} {x : Nat} : ∀ k, x < k → p x = true → q x = false → (∀ j, j < k → j ≠ x → p j = q j) → cntN p k = cntN q k + 1
  | 0, hx, _, _, _ => absurd hx (by omega)
  | k + 1, hx, h1, h2, h => by
    unfold cntN
    by_cases e : x = k
    · subst e
      rw [cntN_ext x (fun j hj => h j (by omega) (by omega)), h1, h2]
      simp
    · rw [cntN_one k (by omega) h1 h2 (fun j hj hne => h j (by omega) hne), h k (by omega) (fun q9 => e q9.symm)]
      omega
theorem cntN_ex {p : Nat → Bool} : ∀ k, 1 ≤ cntN p k → ∃ j, j < k ∧ p j = true
  | 0, h => absurd h (by unfold cntN; omega)
  | k + 1, h => by
    by_cases e : p k = true
    · exact ⟨k, by omega, e⟩
    · unfold cntN at h
      rw [if_neg e] at h
      obtain ⟨j, hj, hp⟩ := cntN_ex k (by omega)
      exact ⟨j, by omega, hp⟩
theorem cntN_ex2 {p : Nat → Bool} (a : Nat) : ∀ k, 2 ≤ cntN p k → ∃ j, j < k ∧ p j = true ∧ j ≠ a
  | 0, h => absurd h (by unfold cntN; omega)
  | k + 1, h => by
    by_cases e : p k = true ∧ k ≠ a
    · exact ⟨k, by omega, e.1, e.2⟩
    · by_cases ek : k = a
      · unfold cntN at h
        have h1 : 1 ≤ cntN p k := by split at h <;> omega
        obtain ⟨j, hj, hp⟩ := cntN_ex k h1
        exact ⟨j, by omega, hp, by omega⟩
      · have e2 : ¬ p k = true := fun q => e ⟨q, ek⟩
        unfold cntN at h
        rw [if_neg e2] at h
        obtain ⟨j, hj, hp, hne⟩ := cntN_ex2 a k (by omega)
        exact ⟨j, by omega, hp, hne⟩
def isR (gr : Nat → Nat) (j : Nat) : Bool := decide (gr j = j)
theorem cntN_all : ∀ k, cntN (isR (fun j => j)) k = k
  | 0 => rfl
  | k + 1 => by rw [cntN, cntN_all k]; simp [isR]
/-- what holds after t joins -/
def hInv (w : Nat → Nat) (t : Nat) (s : hS) : Prop :=
  (∀ j, j < 8 → s.1 j < 8 ∧ s.1 (s.1 j) = s.1 j) ∧ cntN (isR s.1) 8 = 8 - t ∧
  (∀ j, j < 8 → s.2.2.1 j ≤ t) ∧ (∀ j, j < 8 → s.2.2.1 j = 0 → s.1 j = j ∧ ∀ i, i < 8 → s.1 i = j → i = j) ∧
  (∀ r, r < 8 → s.1 r = r → s.2.1 r = sumN (fun j => if s.1 j = r then w j else 0) 8) ∧
  s.2.2.2 = sumN (fun j => w j * s.2.2.1 j) 8 ∧
  (∀ r, r < 8 → s.1 r = r → sumN (fun j => if s.1 j = r then 2 ^ (7 - s.2.2.1 j) else 0) 8 = 128)
theorem hInv_0 (w : Nat → Nat) : hInv w 0 (hJ0 w) := by
  have one : ∀ (f : Nat → Nat) (r : Nat), ∀ k, sumN (fun j => if j = r then f j else 0) k = if r < k then f r else 0 := by
    intro f r k
    induction k with
    | zero => simp [sumN]
    | succ k ih =>
      rw [sumN, ih]
      by_cases h1 : r < k
      · rw [if_pos h1, if_neg (by omega), if_pos (by omega), Nat.add_zero]
      · rw [if_neg h1]
        by_cases h2 : k = r
        · subst h2
          rw [if_pos rfl, if_pos (by omega), Nat.zero_add]
        · rw [if_neg h2, if_neg (by omega)]
  refine ⟨fun j hj => ⟨hj, rfl⟩, cntN_all 8, fun j _ => Nat.le_refl 0, fun j hj _ => ⟨rfl, fun i _ h => h⟩, fun r hr _ => ?_, ?_, fun r hr _ => ?_⟩
  · show w r = sumN (fun j => if j = r then w j else 0) 8
    rw [one w r 8, if_pos hr]
  · show 0 = sumN (fun j => w j * 0) 8
    rw [sumN_ext (g := fun _ => 0) 8 (fun j _ => Nat.mul_zero _)]
    rfl
  · show sumN (fun j => if j = r then 2 ^ (7 - 0) else 0) 8 = 128
    rw [one (fun _ => 2 ^ (7 - 0)) r 8, if_pos hr]
/-- two different groups stand while joins are to come -/
theorem hInv_two {w : Nat → Nat} {t : Nat} {s : hS} (h : hInv w t s) (ht : t < 7) : hJa s < 8 ∧ hJb s < 8 ∧ hJa s ≠ hJb s ∧ s.1 (hJa s) = hJa s ∧ s.1 (hJb s) = hJb s := by
  obtain ⟨h1, h2, -⟩ := h
  have ha : hJa s ≠ 8 := by
    obtain ⟨j, hj, hp⟩ := cntN_ex (p := isR s.1) 8 (by omega)
    exact lowN_ne _ _ _ 8 (by omega) ⟨j, hj, of_decide_eq_true hp, by omega⟩
  have hb : hJb s ≠ 8 := by
    obtain ⟨j, hj, hp, hne⟩ := cntN_ex2 (p := isR s.1) (hJa s) 8 (by omega)
    exact lowN_ne _ _ _ 8 (by omega) ⟨j, hj, of_decide_eq_true hp, hne⟩
  have ra := lowN_root s.1 s.2.1 8 8 ha
  have rb := lowN_root s.1 s.2.1 (hJa s) 8 hb
  have la := lowN_8 s.1 s.2.1 8 (k := 8) (by omega)
  have lb := lowN_8 s.1 s.2.1 (hJa s) (k := 8) (by omega)
  exact ⟨by unfold hJa at ha ⊢; omega, by unfold hJb at hb ⊢; omega, fun e => rb.2 e.symm, ra.1, rb.1⟩
theorem hInv_s {w : Nat → Nat} {t : Nat} {s : hS} (h : hInv w t s) (ht : t < 7) : hInv w (t + 1) (hJs s) := by
  obtain ⟨ha, hb, hab, ra, rb⟩ := hInv_two h ht
  obtain ⟨h1, h2, h3, h4, h5, h6, h7⟩ := h
  generalize ea : hJa s = a at *
  generalize eb : hJb s = b at *
  obtain ⟨gr, gw, ln, js⟩ := s
  dsimp only at h1 h2 h3 h4 h5 h6 h7 ra rb
  have es : hJs (gr, gw, ln, js) = (fun j => if gr j = a ∨ gr j = b then min a b else gr j, updN gw (min a b) (gw a + gw b), fun j => if gr j = a ∨ gr j = b then ln j + 1 else ln j, js + (gw a + gw b)) := by
    unfold hJs
    rw [ea, eb]
  rw [es]
  have hf : min a b = a ∨ min a b = b := by omega
  generalize ef : min a b = f at *
  have hf8 : f < 8 := by omega
  have rf : gr f = f := by rcases hf with e | e <;> rw [e] <;> assumption
  have hgs : ∀ r, (fun j => if gr j = a ∨ gr j = b then f else gr j) r = r ↔ (r = f ∨ (gr r = r ∧ r ≠ a ∧ r ≠ b)) := by
    intro r
    dsimp only
    constructor
    · intro h
      split at h
      · exact Or.inl h.symm
      · rename_i hc
        refine Or.inr ⟨h, fun e => hc (Or.inl (by rw [e, ra])), fun e => hc (Or.inr (by rw [e, rb]))⟩
    · rintro (rfl | ⟨e1, e2, e3⟩)
      · rw [if_pos (by rw [rf]; rcases hf with e | e <;> rw [e] <;> simp)]
      · rw [if_neg (by rw [e1]; omega)]
        exact e1
  have hsum : ∀ (c : Nat → Nat), sumN (fun j => if gr j = a ∨ gr j = b then c j else 0) 8 = sumN (fun j => if gr j = a then c j else 0) 8 + sumN (fun j => if gr j = b then c j else 0) 8 := by
    intro c
    rw [← sumN_add]
    refine sumN_ext 8 (fun j hj => ?_)
    by_cases e1 : gr j = a
    · have : ¬ gr j = b := by omega
      simp [e1, hab]
    · have hba : ¬ b = a := fun e => hab e.symm
      by_cases e2 : gr j = b
      · simp [e2, hba]
      · simp [e1, e2]
  refine ⟨fun j hj => ?_, ?_, fun j hj => ?_, fun j hj h0 => ?_, fun r hr hrr => ?_, ?_, fun r hr hrr => ?_⟩
  · dsimp only
    have hj1 := h1 j hj
    by_cases hc : gr j = a ∨ gr j = b
    · rw [if_pos hc]
      refine ⟨hf8, ?_⟩
      rw [if_pos (by rw [rf]; rcases hf with e | e <;> rw [e] <;> simp)]
    · rw [if_neg hc]
      refine ⟨hj1.1, ?_⟩
      rw [if_neg (by rw [hj1.2]; exact hc)]
      exact hj1.2
  · have hx : ∃ x, x < 8 ∧ (x = a ∨ x = b) ∧ x ≠ f := by
      rcases hf with e | e
      · exact ⟨b, hb, Or.inr rfl, by omega⟩
      · exact ⟨a, ha, Or.inl rfl, by omega⟩
    obtain ⟨x, hx8, hxab, hxf⟩ := hx
    have hc := cntN_one (p := isR gr) (q := isR (fun j => if gr j = a ∨ gr j = b then f else gr j)) (x := x) 8 hx8 (by
        have : gr x = x := by rcases hxab with e | e <;> rw [e] <;> assumption
        simp [isR, this]) (by
        have h9 := (hgs x)
        unfold isR
        refine decide_eq_false (fun e => ?_)
        rcases h9.mp e with e | ⟨-, e1, e2⟩
        · exact hxf e
        · rcases hxab with e | e
          · exact e1 e
          · exact e2 e) (fun j hj hne => by
        have h9 := hgs j
        have e9 : (gr j = j) ↔ ((fun j => if gr j = a ∨ gr j = b then f else gr j) j = j) := by
          rw [h9]
          constructor
          · intro e
            by_cases ejf : j = f
            · exact Or.inl ejf
            · refine Or.inr ⟨e, ?_, ?_⟩ <;> omega
          · rintro (rfl | ⟨e1, -⟩)
            · exact rf
            · exact e1
        unfold isR
        by_cases e : gr j = j
        · rw [decide_eq_true e, decide_eq_true (e9.mp e)]
        · rw [decide_eq_false e, decide_eq_false (fun q => e (e9.mpr q))])
    show cntN (isR (fun j => if gr j = a ∨ gr j = b then f else gr j)) 8 = 8 - (t + 1)
    omega
  · dsimp only
    have := h3 j hj
    split <;> omega
  · dsimp only at h0 ⊢
    by_cases hc : gr j = a ∨ gr j = b
    · rw [if_pos hc] at h0
      omega
    · rw [if_neg hc] at h0
      obtain ⟨e1, e2⟩ := h4 j hj h0
      rw [if_neg hc]
      refine ⟨e1, fun i hi hij => ?_⟩
      by_cases hci : gr i = a ∨ gr i = b
      · rw [if_pos hci] at hij
        exfalso
        apply hc
        rw [← hij, rf]
        rcases hf with e | e <;> rw [e] <;> simp
      · rw [if_neg hci] at hij
        exact e2 i hi hij
  · dsimp only
    rcases (hgs r).mp hrr with e | ⟨e1, e2, e3⟩
    · subst e
      rw [updN_eq, h5 a ha ra, h5 b hb rb, ← hsum w]
      refine sumN_ext 8 (fun j hj => ?_)
      by_cases hc : gr j = a ∨ gr j = b
      · simp [hc]
      · have : ¬ gr j = r := fun e9 => hc (by rw [e9]; rcases hf with e | e <;> rw [e] <;> simp)
        simp [hc, this]
    · rw [updN_ne (by omega), h5 r hr e1]
      refine sumN_ext 8 (fun j hj => ?_)
      by_cases hc : gr j = a ∨ gr j = b
      · have h9 : ¬ gr j = r := by omega
        have h8 : ¬ f = r := by omega
        simp [hc, h9, h8]
      · simp [hc]
  · dsimp only
    rw [h6, h5 a ha ra, h5 b hb rb, ← hsum w, ← sumN_add]
    refine sumN_ext 8 (fun j hj => ?_)
    by_cases hc : gr j = a ∨ gr j = b
    · simp [hc, Nat.mul_add]
    · simp [hc]
  · dsimp only
    rcases (hgs r).mp hrr with e | ⟨e1, e2, e3⟩
    · subst e
      have e7 := hsum (fun j => 2 ^ (7 - ln j))
      rw [h7 a ha ra, h7 b hb rb] at e7
      have e8 : sumN (fun j => if gr j = a ∨ gr j = b then 2 ^ (7 - ln j) else 0) 8 = 2 * sumN (fun j => if (if gr j = a ∨ gr j = b then r else gr j) = r then 2 ^ (7 - (if gr j = a ∨ gr j = b then ln j + 1 else ln j)) else 0) 8 := by
        rw [← sumN_mul]
        refine sumN_ext 8 (fun j hj => ?_)
        by_cases hc : gr j = a ∨ gr j = b
        · have hl := h3 j hj
          simp only [hc, if_true]
          rw [show 7 - ln j = (7 - (ln j + 1)) + 1 by omega, Nat.pow_succ, Nat.mul_comm]
        · have : ¬ gr j = r := fun e9 => hc (by rw [e9]; rcases hf with e | e <;> rw [e] <;> simp)
          simp [hc, this]
      omega
    · rw [← h7 r hr e1]
      refine sumN_ext 8 (fun j hj => ?_)
      by_cases hc : gr j = a ∨ gr j = b
      · have h9 : ¬ gr j = r := by omega
        have h8 : ¬ f = r := by omega
        simp [hc, h9, h8]
      · simp [hc]
theorem hInv_J (w : Nat → Nat) : ∀ t, t ≤ 7 → hInv w t (hJ w t)
  | 0, _ => hInv_0 w
  | t + 1, h => hInv_s (hInv_J w t (by omega)) (by omega)
theorem hJ_two (w : Nat → Nat) {t : Nat} (ht : t < 7) : hJa (hJ w t) < 8 ∧ hJb (hJ w t) < 8 ∧ hJa (hJ w t) ≠ hJb (hJ w t) := by
  have h := hInv_two (hInv_J w t (by omega)) ht
  exact ⟨h.1, h.2.1, h.2.2.1⟩
theorem hSum_eq (w : Nat → Nat) : hSum w = sumN (fun j => w j * hLen w j) 8 := (hInv_J w 7 (by omega)).2.2.2.2.2.1
theorem hLen_7 (w : Nat → Nat) {j : Nat} (hj : j < 8) : hLen w j ≤ 7 := (hInv_J w 7 (by omega)).2.2.1 j hj
theorem hJ_one (w : Nat → Nat) : ∃ r, r < 8 ∧ ∀ j, j < 8 → (hJ w 7).1 j = r := by
  obtain ⟨h1, h2, -⟩ := hInv_J w 7 (by omega)
  obtain ⟨r, hr, hp⟩ := cntN_ex (p := isR (hJ w 7).1) 8 (by omega)
  have hrr := of_decide_eq_true hp
  refine ⟨r, hr, fun j hj => ?_⟩
  by_cases e : (hJ w 7).1 j = r
  · exact e
  · exfalso
    have hj1 := h1 j hj
    have h9 := cntN_one (p := isR (hJ w 7).1) (q := fun i => isR (hJ w 7).1 i && decide (i ≠ r)) (x := r) 8 hr hp (by simp) (fun i hi hne => by simp [hne])
    have h10 := cntN_one (p := fun i => isR (hJ w 7).1 i && decide (i ≠ r)) (q := fun i => isR (hJ w 7).1 i && decide (i ≠ r) && decide (i ≠ (hJ w 7).1 j)) (x := (hJ w 7).1 j) 8 hj1.1 (by simp [isR, hj1.2, e]) (by simp) (fun i hi hne => by simp [hne])
    omega
theorem hLen_1 (w : Nat → Nat) {j : Nat} (hj : j < 8) : 1 ≤ hLen w j := by
  obtain ⟨r, hr, hall⟩ := hJ_one w
  rcases Nat.eq_zero_or_pos (hLen w j) with h0 | h0
  · exfalso
    obtain ⟨e1, e2⟩ := (hInv_J w 7 (by omega)).2.2.2.1 j hj h0
    have hr1 : r = j := (hall j hj).symm.trans e1
    have a0 := e2 0 (by omega) ((hall 0 (by omega)).trans hr1)
    have a1 := e2 1 (by omega) ((hall 1 (by omega)).trans hr1)
    omega
  · exact h0
theorem hKraft (w : Nat → Nat) : sumN (fun j => 2 ^ (7 - hLen w j)) 8 = 128 := by
  obtain ⟨r, hr, hall⟩ := hJ_one w
  have h := (hInv_J w 7 (by omega)).2.2.2.2.2.2 r hr (hall r hr)
  rw [← h]
  refine sumN_ext 8 (fun j hj => ?_)
  rw [hall j hj, if_pos rfl]
  rfl
