/-! the least sum by ranges is the sum by joins -/
theorem sumN_pull {f : Nat → Nat} {p : Nat} : ∀ k, p < k → sumN f k = f p + sumN (fun j => if j = p then 0 else f j) k
  | 0, h => absurd h (by omega)
  | k + 1, h => by
    show sumN f k + f k = f p + (sumN (fun j => if j = p then 0 else f j) k + (if k = p then 0 else f k))
    by_cases e : k = p
    · subst e
      rw [if_pos rfl, sumN_ext (f := fun j => if j = k then 0 else f j) (g := f) k (fun j hj => if_neg (by omega))]
      omega
    · rw [if_neg e]
      have ih := sumN_pull (f := f) (p := p) k (by omega)
      omega
theorem sumN_two {f : Nat → Nat} {p q : Nat} (hpq : p ≠ q) {k : Nat} (hp : p < k) (hq : q < k) : sumN f k = f p + f q + sumN (fun j => if j = p ∨ j = q then 0 else f j) k := by
  have h3 : ∀ j, (if j = q then 0 else if j = p then 0 else f j) = (if j = p ∨ j = q then 0 else f j) := fun j => by
    by_cases e1 : j = q
    · rw [if_pos e1, if_pos (Or.inr e1)]
    · by_cases e2 : j = p
      · rw [if_neg e1, if_pos e2, if_pos (Or.inl e2)]
      · rw [if_neg e1, if_neg e2, if_neg (fun h => h.elim e2 e1)]
  have h2 : sumN (fun j => if j = p then 0 else f j) k = (if q = p then 0 else f q) + sumN (fun j => if j = q then 0 else if j = p then 0 else f j) k := sumN_pull k hq
  rw [sumN_ext k (fun j _ => h3 j), if_neg (fun e => hpq e.symm)] at h2
  have h1 : sumN f k = f p + sumN (fun j => if j = p then 0 else f j) k := sumN_pull k hp
  omega
theorem sumN_dvd {f : Nat → Nat} {d : Nat} : ∀ k, (∀ j, j < k → d ∣ f j) → d ∣ sumN f k
  | 0, _ => Nat.dvd_zero d
  | k + 1, h => Nat.dvd_add (sumN_dvd k (fun j hj => h j (by omega))) (h k (by omega))
theorem rearr {a b c d : Nat} (h1 : a ≤ b) (h2 : c ≤ d) : a * d + b * c ≤ a * c + b * d := by
  obtain ⟨x, rfl⟩ := Nat.le.dest h2
  obtain ⟨y, rfl⟩ := Nat.le.dest h1
  rw [Nat.mul_add, Nat.mul_add, Nat.add_mul, Nat.add_mul]
  omega
def hWt (R : Nat → Bool) (W e : Nat → Nat) : Nat := sumN (fun j => if R j = true then W j * e j else 0) 8
def hKr (R : Nat → Bool) (e : Nat → Nat) : Nat := sumN (fun j => if R j = true then 2 ^ (7 - e j) else 0) 8
def swp (e : Nat → Nat) (p q : Nat) : Nat → Nat := fun j => if j = p then e q else if j = q then e p else e j
theorem swp_p {e : Nat → Nat} {p q : Nat} : swp e p q p = e q := if_pos rfl
theorem swp_q {e : Nat → Nat} {p q : Nat} : swp e p q q = e p := by
  unfold swp
  by_cases h : q = p
  · rw [if_pos h, h]
  · rw [if_neg h, if_pos rfl]
theorem swp_o {e : Nat → Nat} {p q j : Nat} (h1 : j ≠ p) (h2 : j ≠ q) : swp e p q j = e j := by
  unfold swp
  rw [if_neg h1, if_neg h2]
theorem swp_bd {e : Nat → Nat} {p q : Nat} (hp : p < 8) (hq : q < 8) (h : ∀ j, j < 8 → e j ≤ 7) : ∀ j, j < 8 → swp e p q j ≤ 7 := by
  intro j hj
  unfold swp
  split
  · exact h q hq
  · split
    · exact h p hp
    · exact h j hj
theorem swp_kr {R : Nat → Bool} {e : Nat → Nat} {p q : Nat} (hp : p < 8) (hq : q < 8) (rp : R p = true) (rq : R q = true) : hKr R (swp e p q) = hKr R e := by
  unfold hKr
  by_cases hpq : p = q
  · subst hpq
    refine sumN_ext 8 (fun j _ => ?_)
    by_cases hj : j = p
    · rw [hj, swp_p]
    · rw [swp_o hj hj]
  · rw [sumN_two (f := fun j => if R j = true then 2 ^ (7 - swp e p q j) else 0) hpq hp hq, sumN_two (f := fun j => if R j = true then 2 ^ (7 - e j) else 0) hpq hp hq]
    have h1 : sumN (fun j => if j = p ∨ j = q then 0 else if R j = true then 2 ^ (7 - swp e p q j) else 0) 8 = sumN (fun j => if j = p ∨ j = q then 0 else if R j = true then 2 ^ (7 - e j) else 0) 8 := sumN_ext 8 (fun j _ => by
      by_cases hj : j = p ∨ j = q
      · rw [if_pos hj, if_pos hj]
      · rw [if_neg hj, if_neg hj, swp_o (fun h => hj (Or.inl h)) (fun h => hj (Or.inr h))])
    have h2 : (if R p = true then 2 ^ (7 - swp e p q p) else 0) = 2 ^ (7 - e q) := by rw [if_pos rp, swp_p]
    have h3 : (if R q = true then 2 ^ (7 - swp e p q q) else 0) = 2 ^ (7 - e p) := by rw [if_pos rq, swp_q]
    have h4 : (if R p = true then 2 ^ (7 - e p) else 0) = 2 ^ (7 - e p) := by rw [if_pos rp]
    have h5 : (if R q = true then 2 ^ (7 - e q) else 0) = 2 ^ (7 - e q) := by rw [if_pos rq]
    show (if R p = true then 2 ^ (7 - swp e p q p) else 0) + (if R q = true then 2 ^ (7 - swp e p q q) else 0) + _ = (if R p = true then 2 ^ (7 - e p) else 0) + (if R q = true then 2 ^ (7 - e q) else 0) + _
    rw [h1, h2, h3, h4, h5]
    omega
theorem swp_wt {R : Nat → Bool} {W e : Nat → Nat} {p q : Nat} (hp : p < 8) (hq : q < 8) (rp : R p = true) (rq : R q = true) (hw : W p ≤ W q) (he : e p ≤ e q) : hWt R W (swp e p q) ≤ hWt R W e := by
  unfold hWt
  by_cases hpq : p = q
  · subst hpq
    refine Nat.le_of_eq (sumN_ext 8 (fun j _ => ?_))
    by_cases hj : j = p
    · rw [hj, swp_p]
    · rw [swp_o hj hj]
  · rw [sumN_two (f := fun j => if R j = true then W j * swp e p q j else 0) hpq hp hq, sumN_two (f := fun j => if R j = true then W j * e j else 0) hpq hp hq]
    have h1 : sumN (fun j => if j = p ∨ j = q then 0 else if R j = true then W j * swp e p q j else 0) 8 = sumN (fun j => if j = p ∨ j = q then 0 else if R j = true then W j * e j else 0) 8 := sumN_ext 8 (fun j _ => by
      by_cases hj : j = p ∨ j = q
      · rw [if_pos hj, if_pos hj]
      · rw [if_neg hj, if_neg hj, swp_o (fun h => hj (Or.inl h)) (fun h => hj (Or.inr h))])
    have h2 : (if R p = true then W p * swp e p q p else 0) = W p * e q := by rw [if_pos rp, swp_p]
    have h3 : (if R q = true then W q * swp e p q q else 0) = W q * e p := by rw [if_pos rq, swp_q]
    have h4 : (if R p = true then W p * e p else 0) = W p * e p := by rw [if_pos rp]
    have h5 : (if R q = true then W q * e q else 0) = W q * e q := by rw [if_pos rq]
    show (if R p = true then W p * swp e p q p else 0) + (if R q = true then W q * swp e p q q else 0) + _ ≤ (if R p = true then W p * e p else 0) + (if R q = true then W q * e q else 0) + _
    rw [h1, h2, h3, h4, h5]
    have := rearr hw he
    omega
theorem lowN_min (gr gw : Nat → Nat) (b : Nat) : ∀ k, k ≤ 8 → ∀ j, j < k → gr j = j → j ≠ b → gw (lowN gr gw b k) ≤ gw j
  | 0, _, j, hj, _, _ => absurd hj (by omega)
  | k + 1, hk, j, hj, h1, h2 => by
    have ih := lowN_min gr gw b k (by omega)
    unfold lowN
    split
    · rename_i hc
      by_cases e : j = k
      · rw [e]; exact Nat.le_refl _
      · have h3 := ih j (by omega) h1 h2
        have h4 := lowN_ne gr gw b k (by omega) ⟨j, by omega, h1, h2⟩
        rcases hc.2.2 with h5 | h5
        · exact absurd h5 h4
        · omega
    · rename_i hc
      by_cases e : j = k
      · subst e
        exact Nat.le_of_not_lt (fun h5 => hc ⟨h1, h2, Or.inr h5⟩)
      · exact ih j (by omega) h1 h2
theorem max_ex (R : Nat → Bool) (e : Nat → Nat) : ∀ k, (∃ j, j < k ∧ R j = true) → ∃ x, x < k ∧ R x = true ∧ ∀ j, j < k → R j = true → e j ≤ e x
  | 0, ⟨j, hj, _⟩ => absurd hj (by omega)
  | k + 1, ⟨j, hj, h⟩ => by
    by_cases h1 : ∃ j, j < k ∧ R j = true
    · obtain ⟨x, x1, x2, x3⟩ := max_ex R e k h1
      by_cases h2 : R k = true ∧ e x < e k
      · refine ⟨k, by omega, h2.1, fun i hi ri => ?_⟩
        by_cases h3 : i = k
        · rw [h3]; exact Nat.le_refl _
        · have := x3 i (by omega) ri; omega
      · refine ⟨x, by omega, x2, fun i hi ri => ?_⟩
        by_cases h3 : i = k
        · subst h3
          exact Nat.le_of_not_lt (fun h4 => h2 ⟨ri, h4⟩)
        · exact x3 i (by omega) ri
    · have hk : j = k := by
        by_cases h2 : j = k
        · exact h2
        · exact absurd ⟨j, by omega, h⟩ h1
      subst hk
      refine ⟨j, by omega, h, fun i hi ri => ?_⟩
      by_cases h3 : i = j
      · rw [h3]; exact Nat.le_refl _
      · exact absurd ⟨i, by omega, ri⟩ h1
/-- where the shares fill all, the longest is not alone -/
theorem kr_two {R : Nat → Bool} {e : Nat → Nat} {a b x : Nat} (hk : hKr R e = 128) (ha : a < 8) (hb : b < 8) (hab : a ≠ b) (ra : R a = true) (rb : R b = true) (he : ∀ j, j < 8 → e j ≤ 7) (hx : x < 8) (rx : R x = true) (hm : ∀ j, j < 8 → R j = true → e j ≤ e x) : 1 ≤ e x ∧ ∃ y, y < 8 ∧ y ≠ x ∧ R y = true ∧ e y = e x := by
  unfold hKr at hk
  have h1 : 1 ≤ e x := by
    by_cases h0 : e x = 0
    · exfalso
      rw [sumN_two (f := fun j => if R j = true then 2 ^ (7 - e j) else 0) hab ha hb] at hk
      have h2 : (if R a = true then 2 ^ (7 - e a) else 0) = 128 := by rw [if_pos ra, show e a = 0 by have := hm a ha ra; omega]
      have h3 : (if R b = true then 2 ^ (7 - e b) else 0) = 128 := by rw [if_pos rb, show e b = 0 by have := hm b hb rb; omega]
      rw [h2, h3] at hk
      omega
    · omega
  refine ⟨h1, ?_⟩
  by_cases hy : ∃ y, y < 8 ∧ y ≠ x ∧ R y = true ∧ e y = e x
  · exact hy
  · exfalso
    have hp := sumN_pull (f := fun j => if R j = true then 2 ^ (7 - e j) else 0) (p := x) 8 hx
    rw [hk] at hp
    have h7 := he x hx
    have hd1 : 2 ^ (7 - e x + 1) ∣ sumN (fun j => if j = x then 0 else if R j = true then 2 ^ (7 - e j) else 0) 8 := sumN_dvd 8 (fun j hj => by
      by_cases c1 : j = x
      · rw [if_pos c1]; exact Nat.dvd_zero _
      · rw [if_neg c1]
        by_cases c2 : R j = true
        · rw [if_pos c2]
          have c3 := hm j hj c2
          have c4 : e j ≠ e x := fun c5 => hy ⟨j, hj, c1, c2, c5⟩
          exact Nat.pow_dvd_pow 2 (by omega)
        · rw [if_neg c2]; exact Nat.dvd_zero _)
    have hd2 : 2 ^ (7 - e x + 1) ∣ 128 := Nat.pow_dvd_pow 2 (show 7 - e x + 1 ≤ 7 by omega)
    have hd3 : 2 ^ (7 - e x + 1) ∣ 2 ^ (7 - e x) := by
      have e1 : (if R x = true then 2 ^ (7 - e x) else 0) = 2 ^ (7 - e x) := if_pos rx
      have hp2 : 128 = 2 ^ (7 - e x) + sumN (fun j => if j = x then 0 else if R j = true then 2 ^ (7 - e j) else 0) 8 := by rw [← e1]; exact hp
      rw [hp2] at hd2
      exact (Nat.dvd_add_left hd1).mp hd2
    have h5 := Nat.le_of_dvd (Nat.two_pow_pos _) hd3
    have h6 : 2 ^ (7 - e x + 1) = 2 ^ (7 - e x) * 2 := Nat.pow_succ ..
    have h8 := Nat.two_pow_pos (7 - e x)
    omega
theorem mrg_sum {R R' : Nat → Bool} {f g : Nat → Nat} {a b : Nat} (hab : a ≠ b) (ha : a < 8) (hb : b < 8) (hR : ∀ j, j < 8 → (R' j = true ↔ j = min a b ∨ (R j = true ∧ j ≠ a ∧ j ≠ b))) (ra : R a = true) (rb : R b = true) (hfg : ∀ j, j < 8 → j ≠ a → j ≠ b → f j = g j) : sumN (fun j => if R' j = true then f j else 0) 8 + (g a + g b) = sumN (fun j => if R j = true then g j else 0) 8 + f (min a b) := by
  have h1 := sumN_two (f := fun j => if R' j = true then f j else 0) hab ha hb
  have h2 := sumN_two (f := fun j => if R j = true then g j else 0) hab ha hb
  have h3 : sumN (fun j => if j = a ∨ j = b then 0 else if R' j = true then f j else 0) 8 = sumN (fun j => if j = a ∨ j = b then 0 else if R j = true then g j else 0) 8 := sumN_ext 8 (fun j hj => by
    by_cases e : j = a ∨ j = b
    · rw [if_pos e, if_pos e]
    · have e1 : j ≠ a := fun h => e (Or.inl h)
      have e2 : j ≠ b := fun h => e (Or.inr h)
      rw [if_neg e, if_neg e]
      by_cases q : R j = true
      · rw [if_pos q, if_pos ((hR j hj).mpr (Or.inr ⟨q, e1, e2⟩)), hfg j hj e1 e2]
      · rw [if_neg q, if_neg (fun h => ((hR j hj).mp h).elim (fun h4 => by omega) (fun h4 => q h4.1))])
  have h4 : (if R a = true then g a else 0) = g a := if_pos ra
  have h5 : (if R b = true then g b else 0) = g b := if_pos rb
  have h6 : (if R' a = true then f a else 0) + (if R' b = true then f b else 0) = f (min a b) := by
    by_cases c : a < b
    · have c1 : min a b = a := by omega
      rw [if_pos ((hR a ha).mpr (Or.inl c1.symm)), if_neg (fun h => ((hR b hb).mp h).elim (fun h7 => by omega) (fun h7 => h7.2.2 rfl)), c1]
      rfl
    · have c1 : min a b = b := by omega
      rw [if_pos ((hR b hb).mpr (Or.inl c1.symm)), if_neg (fun h => ((hR a ha).mp h).elim (fun h7 => by omega) (fun h7 => h7.2.1 rfl)), c1]
      exact Nat.zero_add _
  have h7 : sumN (fun j => if R' j = true then f j else 0) 8 = (if R' a = true then f a else 0) + (if R' b = true then f b else 0) + sumN (fun j => if j = a ∨ j = b then 0 else if R' j = true then f j else 0) 8 := h1
  have h8 : sumN (fun j => if R j = true then g j else 0) 8 = (if R a = true then g a else 0) + (if R b = true then g b else 0) + sumN (fun j => if j = a ∨ j = b then 0 else if R j = true then g j else 0) 8 := h2
  rw [h6, h3] at h7
  rw [h4, h5] at h8
  omega
/-- joins give the least sum of all -/
theorem hOpt (w : Nat → Nat) : ∀ n t, t + n = 7 → ∀ e : Nat → Nat, (∀ j, j < 8 → e j ≤ 7) → hKr (isR (hJ w t).1) e = 128 → hSum w ≤ (hJ w t).2.2.2 + hWt (isR (hJ w t).1) (hJ w t).2.1 e
  | 0, t, ht, e, _, _ => by
    obtain rfl : t = 7 := by omega
    exact Nat.le_add_right _ _
  | n + 1, t, ht, e, he, hk => by
    have ih := hOpt w n (t + 1) (by omega)
    have hI := hInv_J w t (by omega)
    obtain ⟨ha, hb, hab, ra, rb⟩ := hInv_two hI (by omega)
    rw [show hJ w (t + 1) = hJs (hJ w t) from rfl] at ih
    rw [show (hJs (hJ w t)).1 = (fun j => if (hJ w t).1 j = hJa (hJ w t) ∨ (hJ w t).1 j = hJb (hJ w t) then min (hJa (hJ w t)) (hJb (hJ w t)) else (hJ w t).1 j) from rfl, show (hJs (hJ w t)).2.1 = updN (hJ w t).2.1 (min (hJa (hJ w t)) (hJb (hJ w t))) ((hJ w t).2.1 (hJa (hJ w t)) + (hJ w t).2.1 (hJb (hJ w t))) from rfl, show (hJs (hJ w t)).2.2.2 = (hJ w t).2.2.2 + ((hJ w t).2.1 (hJa (hJ w t)) + (hJ w t).2.1 (hJb (hJ w t))) from rfl] at ih
    have hmn1 : ∀ j, j < 8 → (hJ w t).1 j = j → (hJ w t).2.1 (hJa (hJ w t)) ≤ (hJ w t).2.1 j := fun j hj h1 => lowN_min _ _ 8 8 (by omega) j hj h1 (by omega)
    have hmn2 : ∀ j, j < 8 → (hJ w t).1 j = j → j ≠ hJa (hJ w t) → (hJ w t).2.1 (hJb (hJ w t)) ≤ (hJ w t).2.1 j := fun j hj h1 h2 => lowN_min _ _ _ 8 (by omega) j hj h1 h2
    have hgr := hI.1
    generalize hJ w t = s at *
    have ra1 : isR s.1 (hJa s) = true := decide_eq_true ra
    have rb1 : isR s.1 (hJb s) = true := decide_eq_true rb
    obtain ⟨x, x1, x2, x3⟩ := max_ex (isR s.1) e 8 ⟨_, ha, ra1⟩
    obtain ⟨hL, y, y1, y2, y3, y4⟩ := kr_two hk ha hb hab ra1 rb1 he x1 x2 x3
    have hx7 := he x x1
    have root : ∀ {j}, isR s.1 j = true → s.1 j = j := fun h => of_decide_eq_true h
    have w1 := swp_wt (W := s.2.1) (e := e) ha x1 ra1 x2 (hmn1 x x1 (root x2)) (x3 _ ha ra1)
    have k1 := swp_kr (e := e) ha x1 ra1 x2
    have b1 := swp_bd ha x1 he
    obtain ⟨e1, he1⟩ : ∃ q, q = swp e (hJa s) x := ⟨_, rfl⟩
    rw [← he1] at w1 k1 b1
    have ea : e1 (hJa s) = e x := by rw [he1]; exact swp_p
    obtain ⟨y', z1, z2, z3, z4⟩ : ∃ y', y' < 8 ∧ y' ≠ hJa s ∧ isR s.1 y' = true ∧ e1 y' = e x := by
      by_cases c : y = hJa s
      · refine ⟨x, x1, fun h => y2 (c.trans h.symm), x2, ?_⟩
        rw [he1, swp_q, ← c]
        exact y4
      · refine ⟨y, y1, c, y3, ?_⟩
        rw [he1, swp_o c y2]
        exact y4
    have m1 : ∀ j, j < 8 → isR s.1 j = true → e1 j ≤ e x := fun j hj rj => by
      rw [he1]
      unfold swp
      split
      · exact Nat.le_refl _
      · split
        · exact x3 _ ha ra1
        · exact x3 j hj rj
    have w2 := swp_wt (W := s.2.1) (e := e1) hb z1 rb1 z3 (hmn2 y' z1 (root z3) z2) (by rw [z4]; exact m1 _ hb rb1)
    have k2 := swp_kr (e := e1) hb z1 rb1 z3
    have b2 := swp_bd hb z1 b1
    obtain ⟨e2, he2⟩ : ∃ q, q = swp e1 (hJb s) y' := ⟨_, rfl⟩
    rw [← he2] at w2 k2 b2
    have f1 : e2 (hJa s) = e x := by rw [he2, swp_o hab (fun h => z2 h.symm)]; exact ea
    have f2 : e2 (hJb s) = e x := by rw [he2, swp_p]; exact z4
    have hk2 : hKr (isR s.1) e2 = 128 := k2.trans (k1.trans hk)
    have hw2 : hWt (isR s.1) s.2.1 e2 ≤ hWt (isR s.1) s.2.1 e := Nat.le_trans w2 w1
    clear w1 k1 b1 w2 k2 ea z1 z2 z3 z4 m1 he1 he2 hk x3 y1 y2 y3 y4
    generalize hJa s = a at *
    generalize hJb s = b at *
    have hroot : ∀ j, j < 8 → (isR (fun j => if s.1 j = a ∨ s.1 j = b then min a b else s.1 j) j = true ↔ j = min a b ∨ (isR s.1 j = true ∧ j ≠ a ∧ j ≠ b)) := fun j hj => by
      constructor
      · intro h
        have h1 : (if s.1 j = a ∨ s.1 j = b then min a b else s.1 j) = j := of_decide_eq_true h
        by_cases c : s.1 j = a ∨ s.1 j = b
        · rw [if_pos c] at h1
          exact Or.inl h1.symm
        · rw [if_neg c] at h1
          exact Or.inr ⟨decide_eq_true h1, fun h2 => c (Or.inl (h1.trans h2)), fun h2 => c (Or.inr (h1.trans h2))⟩
      · intro h
        refine decide_eq_true (show (if s.1 j = a ∨ s.1 j = b then min a b else s.1 j) = j from ?_)
        rcases h with h | ⟨h1, h2, h3⟩
        · have c : s.1 j = a ∨ s.1 j = b := by
            by_cases c1 : a < b
            · have c2 : j = a := by omega
              exact Or.inl (by rw [c2]; exact ra)
            · have c2 : j = b := by omega
              exact Or.inr (by rw [c2]; exact rb)
          rw [if_pos c]
          exact h.symm
        · have h4 := root h1
          rw [if_neg (fun h5 => h5.elim (fun h6 => h2 (h4.symm.trans h6)) (fun h6 => h3 (h4.symm.trans h6)))]
          exact h4
    obtain ⟨m, hm⟩ : ∃ m, e x = m + 1 := ⟨e x - 1, by omega⟩
    have b3 : ∀ j, j < 8 → updN e2 (min a b) m j ≤ 7 := fun j hj => by
      by_cases c : j = min a b
      · rw [c, updN_eq]; omega
      · rw [updN_ne c]; exact b2 j hj
    have g1 := mrg_sum (R := isR s.1) (R' := isR (fun j => if s.1 j = a ∨ s.1 j = b then min a b else s.1 j)) (f := fun j => 2 ^ (7 - updN e2 (min a b) m j)) (g := fun j => 2 ^ (7 - e2 j)) hab ha hb hroot ra1 rb1 (fun j hj h1 h2 => by
      show 2 ^ (7 - updN e2 (min a b) m j) = 2 ^ (7 - e2 j)
      rw [updN_ne (by omega)])
    have g2 := mrg_sum (R := isR s.1) (R' := isR (fun j => if s.1 j = a ∨ s.1 j = b then min a b else s.1 j)) (f := fun j => updN s.2.1 (min a b) (s.2.1 a + s.2.1 b) j * updN e2 (min a b) m j) (g := fun j => s.2.1 j * e2 j) hab ha hb hroot ra1 rb1 (fun j hj h1 h2 => by
      show updN s.2.1 (min a b) (s.2.1 a + s.2.1 b) j * updN e2 (min a b) m j = s.2.1 j * e2 j
      rw [updN_ne (by omega), updN_ne (by omega)])
    rw [updN_eq, f1, f2, hm] at g1
    rw [updN_eq, updN_eq, f1, f2, hm] at g2
    have g3 := ih (updN e2 (min a b) m) b3 (by
      unfold hKr at hk2 ⊢
      have p1 : 2 ^ (7 - m) = 2 ^ (7 - (m + 1)) * 2 := by
        rw [show 7 - m = 7 - (m + 1) + 1 by omega]
        exact Nat.pow_succ ..
      omega)
    unfold hWt at g3 hw2 ⊢
    have p2 : (s.2.1 a + s.2.1 b) * m + (s.2.1 a + s.2.1 b) = s.2.1 a * (m + 1) + s.2.1 b * (m + 1) := by
      rw [Nat.mul_succ, Nat.mul_succ, Nat.add_mul]
      omega
    omega
/-! ranges: the least sum is had by lengths, and lies under that of all lengths that fall -/
theorem rgS_eq (sv : Nat → Nat) (i j : Nat) : ∀ c, rgS sv i j c = sv j + sumN (fun d => sv (i + d)) c
  | 0 => rfl
  | c + 1 => by
    show rgS sv i j c + sv (i + c) = sv j + (sumN (fun d => sv (i + d)) c + sv (i + c))
    rw [rgS_eq sv i j c]
    omega
theorem rgM_at (l : Nat → Nat → Nat) (i j : Nat) : ∀ c, rgM l i j c = 1073741824 ∨ ∃ d, d < c ∧ rgM l i j c = l i (i + d) + l (i + d + 1) j
  | 0 => Or.inl rfl
  | c + 1 => by
    unfold rgM
    split
    · exact Or.inr ⟨c, by omega, rfl⟩
    · rcases rgM_at l i j c with h | ⟨d, hd, h⟩
      · exact Or.inl h
      · exact Or.inr ⟨d, by omega, h⟩
theorem sumN_app (f : Nat → Nat) (m : Nat) : ∀ n, sumN f (m + n) = sumN f m + sumN (fun d => f (m + d)) n
  | 0 => rfl
  | n + 1 => by
    show sumN f (m + n) + f (m + n) = sumN f m + (sumN (fun d => f (m + d)) n + f (m + n))
    rw [sumN_app f m n]
    omega
theorem rg_has {sv : Nat → Nat} {l : Nat → Nat → Nat} (hsv : ∀ j, j < 8 → sv j ≤ 99) (h0 : ∀ i, i < 8 → l i i = 0) (hk : ∀ i, ∀ j, i < j → j < 8 → rgK sv l i j) : ∀ n c, c ≤ n → ∀ i, i + c < 8 → ∃ e : Nat → Nat, (∀ d, d ≤ c → e (i + d) ≤ c) ∧ sumN (fun d => 2 ^ (7 - e (i + d))) (c + 1) = 128 ∧ l i (i + c) = sumN (fun d => sv (i + d) * e (i + d)) (c + 1)
  | _, 0, _, i, hi => ⟨fun _ => 0, fun _ _ => Nat.le_refl _, rfl, by rw [show i + 0 = i from rfl, h0 i hi]; show 0 = 0 + sv i * 0; omega⟩
  | 0, c + 1, h, _, _ => absurd h (by omega)
  | n + 1, c + 1, hc, i, hi => by
    have hbd : ∀ c i, i + c < 8 → l i (i + c) ≤ 800 * c := fun c i h => rgK_bd hsv h0 c i h (fun d hd _ i hi => hk i (i + d) (by omega) hi)
    have hK := hk i (i + (c + 1)) (by omega) hi
    unfold rgK at hK
    rw [show i + (c + 1) - i = c + 1 by omega] at hK
    obtain ⟨d, hd, hm⟩ : ∃ d, d < c + 1 ∧ rgM l i (i + (c + 1)) (c + 1) = l i (i + d) + l (i + d + 1) (i + (c + 1)) := by
      rcases rgM_at l i (i + (c + 1)) (c + 1) with h | h
      · exfalso
        have h1 := rgM_le1 l i (i + (c + 1)) (d := 0) (c + 1) (by omega)
        have h2 := hbd c (i + 1) (by omega)
        have h3 := h0 i (by omega)
        rw [show i + 1 + c = i + (c + 1) by omega] at h2
        rw [show i + 0 = i from rfl, h3] at h1
        omega
      · exact h
    obtain ⟨e1, p1, p2, p3⟩ := rg_has hsv h0 hk n d (by omega) i (by omega)
    obtain ⟨e2, q1, q2, q3⟩ := rg_has hsv h0 hk n (c - d) (by omega) (i + d + 1) (by omega)
    rw [show i + d + 1 + (c - d) = i + (c + 1) by omega] at q3
    refine ⟨fun k => if k ≤ i + d then e1 k + 1 else e2 k + 1, fun d2 hd2 => ?_, ?_, ?_⟩
    · show (if i + d2 ≤ i + d then e1 (i + d2) + 1 else e2 (i + d2) + 1) ≤ c + 1
      by_cases h : d2 ≤ d
      · rw [if_pos (by omega)]
        have := p1 d2 h
        omega
      · rw [if_neg (by omega)]
        have := q1 (d2 - (d + 1)) (by omega)
        rw [show i + d + 1 + (d2 - (d + 1)) = i + d2 by omega] at this
        omega
    · rw [show c + 1 + 1 = (d + 1) + (c - d + 1) by omega, sumN_app]
      have a1 : sumN (fun d2 => 2 ^ (7 - (if i + d2 ≤ i + d then e1 (i + d2) + 1 else e2 (i + d2) + 1))) (d + 1) * 2 = 128 := by
        rw [Nat.mul_comm, ← sumN_mul, ← p2]
        refine sumN_ext _ (fun d2 h2 => ?_)
        show 2 * 2 ^ (7 - (if i + d2 ≤ i + d then e1 (i + d2) + 1 else e2 (i + d2) + 1)) = 2 ^ (7 - e1 (i + d2))
        have := p1 d2 (by omega)
        rw [if_pos (by omega), show 7 - e1 (i + d2) = 7 - (e1 (i + d2) + 1) + 1 by omega, Nat.pow_succ]
        omega
      have a2 : sumN (fun d2 => 2 ^ (7 - (if i + (d + 1 + d2) ≤ i + d then e1 (i + (d + 1 + d2)) + 1 else e2 (i + (d + 1 + d2)) + 1))) (c - d + 1) * 2 = 128 := by
        rw [Nat.mul_comm, ← sumN_mul, ← q2]
        refine sumN_ext _ (fun d2 h2 => ?_)
        show 2 * 2 ^ (7 - (if i + (d + 1 + d2) ≤ i + d then e1 (i + (d + 1 + d2)) + 1 else e2 (i + (d + 1 + d2)) + 1)) = 2 ^ (7 - e2 (i + d + 1 + d2))
        have := q1 d2 (by omega)
        rw [if_neg (by omega), show i + (d + 1 + d2) = i + d + 1 + d2 by omega, show 7 - e2 (i + d + 1 + d2) = 7 - (e2 (i + d + 1 + d2) + 1) + 1 by omega, Nat.pow_succ]
        omega
      show sumN (fun d2 => 2 ^ (7 - (if i + d2 ≤ i + d then e1 (i + d2) + 1 else e2 (i + d2) + 1))) (d + 1) + sumN (fun d2 => 2 ^ (7 - (if i + (d + 1 + d2) ≤ i + d then e1 (i + (d + 1 + d2)) + 1 else e2 (i + (d + 1 + d2)) + 1))) (c - d + 1) = 128
      omega
    · rw [hK, hm, rgS_eq, p3, q3, show c + 1 + 1 = (d + 1) + (c - d + 1) by omega, sumN_app _ (d + 1) (c - d + 1)]
      have a1 : sumN (fun d2 => sv (i + d2) * (if i + d2 ≤ i + d then e1 (i + d2) + 1 else e2 (i + d2) + 1)) (d + 1) = sumN (fun d2 => sv (i + d2) * e1 (i + d2)) (d + 1) + sumN (fun d2 => sv (i + d2)) (d + 1) := by
        rw [← sumN_add]
        refine sumN_ext _ (fun d2 h2 => ?_)
        show sv (i + d2) * (if i + d2 ≤ i + d then e1 (i + d2) + 1 else e2 (i + d2) + 1) = sv (i + d2) * e1 (i + d2) + sv (i + d2)
        rw [if_pos (by omega)]
        rfl
      have a2 : sumN (fun d2 => sv (i + (d + 1 + d2)) * (if i + (d + 1 + d2) ≤ i + d then e1 (i + (d + 1 + d2)) + 1 else e2 (i + (d + 1 + d2)) + 1)) (c - d + 1) = sumN (fun d2 => sv (i + d + 1 + d2) * e2 (i + d + 1 + d2)) (c - d + 1) + sumN (fun d2 => sv (i + d + 1 + d2)) (c - d + 1) := by
        rw [← sumN_add]
        refine sumN_ext _ (fun d2 h2 => ?_)
        show sv (i + (d + 1 + d2)) * (if i + (d + 1 + d2) ≤ i + d then e1 (i + (d + 1 + d2)) + 1 else e2 (i + (d + 1 + d2)) + 1) = sv (i + d + 1 + d2) * e2 (i + d + 1 + d2) + sv (i + d + 1 + d2)
        rw [if_neg (by omega), show i + (d + 1 + d2) = i + d + 1 + d2 by omega]
        rfl
      have a3 : sumN (fun d2 => sv (i + d2)) (c + 1) + sv (i + (c + 1)) = sumN (fun d2 => sv (i + d2)) (d + 1) + sumN (fun d2 => sv (i + d + 1 + d2)) (c - d + 1) := by
        have a4 : sumN (fun d2 => sv (i + d2)) (c + 1) + sv (i + (c + 1)) = sumN (fun d2 => sv (i + d2)) (d + 1 + (c - d + 1)) := by
          rw [show d + 1 + (c - d + 1) = c + 1 + 1 by omega]
          rfl
        rw [a4, sumN_app]
        congr 1
        refine sumN_ext _ (fun d2 _ => ?_)
        show sv (i + (d + 1 + d2)) = sv (i + d + 1 + d2)
        rw [show i + (d + 1 + d2) = i + d + 1 + d2 by omega]
      show _ = sumN (fun d2 => sv (i + d2) * (if i + d2 ≤ i + d then e1 (i + d2) + 1 else e2 (i + d2) + 1)) (d + 1) + sumN (fun d2 => sv (i + (d + 1 + d2)) * (if i + (d + 1 + d2) ≤ i + d then e1 (i + (d + 1 + d2)) + 1 else e2 (i + (d + 1 + d2)) + 1)) (c - d + 1)
      rw [a1, a2]
      omega
theorem dvd_room {q a b : Nat} (h1 : q ∣ a) (h2 : q ∣ b) (h : a < b) : a + q ≤ b := by
  have h3 : q ∣ (b - a) + a := by rw [Nat.sub_add_cancel (Nat.le_of_lt h)]; exact h2
  have h4 := Nat.le_of_dvd (by omega) ((Nat.dvd_add_iff_left h1).mpr h3)
  omega
theorem half_ex {f : Nat → Nat} {H N : Nat} (h0 : 0 < H) (hN : sumN f N = 2 * H) (h1 : ∀ m, m < N → f m ∣ H) (h2 : ∀ m, m < N → f m ∣ sumN f m) : ∃ m, m ≤ N ∧ sumN f m = H := by
  have key : ∀ k, k ≤ N → (∃ m, m ≤ k ∧ sumN f m = H) ∨ sumN f k < H := by
    intro k
    induction k with
    | zero => intro _; exact Or.inr h0
    | succ k ih =>
      intro hk
      rcases ih (by omega) with ⟨m, hm, e⟩ | h
      · exact Or.inl ⟨m, by omega, e⟩
      · have h3 := dvd_room (h2 k (by omega)) (h1 k (by omega)) h
        by_cases e : sumN f k + f k = H
        · exact Or.inl ⟨k + 1, Nat.le_refl _, e⟩
        · exact Or.inr (by show sumN f k + f k < H; omega)
  rcases key N (Nat.le_refl _) with h | h
  · exact h
  · omega
theorem fall_le {e : Nat → Nat} (h : ∀ k, k + 1 < 8 → e (k + 1) ≤ e k) {a : Nat} : ∀ d, a + d < 8 → e (a + d) ≤ e a
  | 0, _ => Nat.le_refl _
  | d + 1, hd => Nat.le_trans (h (a + d) (by omega)) (fall_le h d (by omega))
theorem rg_le {sv : Nat → Nat} {l : Nat → Nat → Nat} (h0 : ∀ i, i < 8 → l i i = 0) (hk : ∀ i, ∀ j, i < j → j < 8 → rgK sv l i j) {e : Nat → Nat} (hf : ∀ k, k + 1 < 8 → e (k + 1) ≤ e k) (he : ∀ k, k < 8 → e k ≤ 7) : ∀ n c, c ≤ n → ∀ i dp, i + c < 8 → (∀ d, d ≤ c → dp ≤ e (i + d)) → sumN (fun d => 2 ^ (7 - e (i + d))) (c + 1) = 2 ^ (7 - dp) → l i (i + c) ≤ sumN (fun d => sv (i + d) * (e (i + d) - dp)) (c + 1)
  | _, 0, _, i, dp, hi, _, _ => by rw [show i + 0 = i from rfl, h0 i hi]; exact Nat.zero_le _
  | 0, c + 1, h, _, _, _, _, _ => absurd h (by omega)
  | n + 1, c + 1, hc, i, dp, hi, hd, hs => by
    have he1 : ∀ d, d ≤ c + 1 → dp + 1 ≤ e (i + d) := fun d hd1 => by
      have h1 := hd d hd1
      by_cases h2 : e (i + d) = dp
      · exfalso
        obtain ⟨q, hq1, hq2⟩ : ∃ q, q < c + 1 + 1 ∧ d ≠ q := by
          by_cases h3 : d = 0
          · exact ⟨1, by omega, by omega⟩
          · exact ⟨0, by omega, h3⟩
        rw [sumN_two (f := fun d => 2 ^ (7 - e (i + d))) hq2 (show d < c + 1 + 1 by omega) hq1] at hs
        rw [h2] at hs
        have := Nat.two_pow_pos (7 - e (i + q))
        omega
      · omega
    have h7 := he (i + 0) (by omega)
    have h8 := he1 0 (by omega)
    have hH : 2 ^ (7 - dp) = 2 * 2 ^ (6 - dp) := by
      rw [show 7 - dp = 6 - dp + 1 by omega, Nat.pow_succ]
      omega
    obtain ⟨m, hm1, hm2⟩ := half_ex (f := fun d => 2 ^ (7 - e (i + d))) (H := 2 ^ (6 - dp)) (N := c + 1 + 1) (Nat.two_pow_pos _) (hs.trans hH) (fun m hm => by
      have := he1 m (by omega)
      exact Nat.pow_dvd_pow 2 (by omega)) (fun m hm => by
      have h1 := sumN_app (fun d => 2 ^ (7 - e (i + d))) m (c + 1 + 1 - m)
      rw [show m + (c + 1 + 1 - m) = c + 1 + 1 by omega, hs] at h1
      have h2 : 2 ^ (7 - e (i + m)) ∣ 2 ^ (7 - dp) := by
        have := he1 m (by omega)
        exact Nat.pow_dvd_pow 2 (by omega)
      rw [h1] at h2
      refine (Nat.dvd_add_iff_left (sumN_dvd _ (fun d hd2 => ?_))).mpr h2
      show 2 ^ (7 - e (i + m)) ∣ 2 ^ (7 - e (i + (m + d)))
      have h3 := fall_le hf (a := i + m) d (by omega)
      rw [show i + m + d = i + (m + d) by omega] at h3
      exact Nat.pow_dvd_pow 2 (by omega))
    have hp := Nat.two_pow_pos (6 - dp)
    have hm0 : m ≠ 0 := fun h => by
      rw [h] at hm2
      have : sumN (fun d => 2 ^ (7 - e (i + d))) 0 = 0 := rfl
      omega
    have hmN : m ≠ c + 1 + 1 := fun h => by
      rw [h, hs, hH] at hm2
      omega
    have happ := sumN_app (fun d => 2 ^ (7 - e (i + d))) m (c + 1 - m + 1)
    rw [show m + (c + 1 - m + 1) = c + 1 + 1 by omega, hs, hm2, hH] at happ
    have i1 := rg_le h0 hk hf he n (m - 1) (by omega) i (dp + 1) (by omega) (fun d hd2 => he1 d (by omega)) (by rw [show m - 1 + 1 = m by omega, hm2, show 7 - (dp + 1) = 6 - dp by omega])
    have i2 := rg_le h0 hk hf he n (c + 1 - m) (by omega) (i + m) (dp + 1) (by omega) (fun d hd2 => by
      have := he1 (m + d) (by omega)
      rw [show i + m + d = i + (m + d) by omega]
      exact this) (by
      rw [show 7 - (dp + 1) = 6 - dp by omega]
      have e1 : sumN (fun d => 2 ^ (7 - e (i + m + d))) (c + 1 - m + 1) = sumN (fun d => 2 ^ (7 - e (i + (m + d)))) (c + 1 - m + 1) := sumN_ext _ (fun d _ => by rw [show i + m + d = i + (m + d) by omega])
      omega)
    rw [show m - 1 + 1 = m by omega] at i1
    have hK := hk i (i + (c + 1)) (by omega) hi
    unfold rgK at hK
    rw [show i + (c + 1) - i = c + 1 by omega] at hK
    have h1 := rgM_le1 l i (i + (c + 1)) (d := m - 1) (c + 1) (by omega)
    rw [show i + (m - 1) + 1 = i + m by omega] at h1
    rw [show i + m + (c + 1 - m) = i + (c + 1) by omega] at i2
    rw [rgS_eq] at hK
    have hw : sumN (fun d => sv (i + d) * (e (i + d) - dp)) (c + 1 + 1) = sumN (fun d => sv (i + d) * (e (i + d) - (dp + 1))) (c + 1 + 1) + sumN (fun d => sv (i + d)) (c + 1 + 1) := by
      rw [← sumN_add]
      refine sumN_ext _ (fun d hd2 => ?_)
      show sv (i + d) * (e (i + d) - dp) = sv (i + d) * (e (i + d) - (dp + 1)) + sv (i + d)
      have := he1 d (by omega)
      rw [show e (i + d) - dp = e (i + d) - (dp + 1) + 1 by omega]
      rfl
    have hw2 := sumN_app (fun d => sv (i + d) * (e (i + d) - (dp + 1))) m (c + 1 - m + 1)
    rw [show m + (c + 1 - m + 1) = c + 1 + 1 by omega] at hw2
    have hw3 : sumN (fun d => sv (i + (m + d)) * (e (i + (m + d)) - (dp + 1))) (c + 1 - m + 1) = sumN (fun d => sv (i + m + d) * (e (i + m + d) - (dp + 1))) (c + 1 - m + 1) := sumN_ext _ (fun d _ => by rw [show i + m + d = i + (m + d) by omega])
    have hw4 : sumN (fun d => sv (i + d)) (c + 1 + 1) = sumN (fun d => sv (i + d)) (c + 1) + sv (i + (c + 1)) := rfl
    omega
theorem srt_len {sv : Nat → Nat} (hs : ∀ i, ∀ j, i < j → j < 8 → sv i ≤ sv j) : ∀ n (e : Nat → Nat), sumN (fun k => k * e k) 8 ≤ n → (∀ k, k < 8 → e k ≤ 7) → hKr (fun _ => true) e = 128 → ∃ e1 : Nat → Nat, (∀ k, k + 1 < 8 → e1 (k + 1) ≤ e1 k) ∧ (∀ k, k < 8 → e1 k ≤ 7) ∧ hKr (fun _ => true) e1 = 128 ∧ hWt (fun _ => true) sv e1 ≤ hWt (fun _ => true) sv e := by
  intro n
  induction n with
  | zero =>
    intro e hn he hk
    refine ⟨e, fun k hk1 => ?_, he, hk, Nat.le_refl _⟩
    have h1 := sumN_pull (f := fun k => k * e k) (p := k + 1) 8 hk1
    have h2 : (k + 1) * e (k + 1) = k * e (k + 1) + e (k + 1) := Nat.succ_mul ..
    have h3 : sumN (fun k => k * e k) 8 = (k + 1) * e (k + 1) + sumN (fun j => if j = k + 1 then 0 else j * e j) 8 := h1
    omega
  | succ n ih =>
    intro e hn he hk
    by_cases h : ∃ k, k + 1 < 8 ∧ e k < e (k + 1)
    · obtain ⟨k, hk1, hk2⟩ := h
      have m1 := sumN_two (f := fun k => k * e k) (p := k) (q := k + 1) (by omega) (show k < 8 by omega) hk1
      have m2 := sumN_two (f := fun j => j * swp e k (k + 1) j) (p := k) (q := k + 1) (by omega) (show k < 8 by omega) hk1
      have m3 : sumN (fun j => if j = k ∨ j = k + 1 then 0 else j * swp e k (k + 1) j) 8 = sumN (fun j => if j = k ∨ j = k + 1 then 0 else j * e j) 8 := sumN_ext 8 (fun j _ => by
        by_cases hj : j = k ∨ j = k + 1
        · rw [if_pos hj, if_pos hj]
        · rw [if_neg hj, if_neg hj, swp_o (fun h => hj (Or.inl h)) (fun h => hj (Or.inr h))])
      have m4 : sumN (fun k => k * e k) 8 = k * e k + (k + 1) * e (k + 1) + sumN (fun j => if j = k ∨ j = k + 1 then 0 else j * e j) 8 := m1
      have m5 : sumN (fun j => j * swp e k (k + 1) j) 8 = k * swp e k (k + 1) k + (k + 1) * swp e k (k + 1) (k + 1) + sumN (fun j => if j = k ∨ j = k + 1 then 0 else j * swp e k (k + 1) j) 8 := m2
      rw [m3, swp_p, swp_q] at m5
      have m6 : (k + 1) * e (k + 1) = k * e (k + 1) + e (k + 1) := Nat.succ_mul ..
      have m7 : (k + 1) * e k = k * e k + e k := Nat.succ_mul ..
      obtain ⟨e1, g1, g2, g3, g4⟩ := ih (swp e k (k + 1)) (by omega) (swp_bd (by omega) hk1 he) ((swp_kr (by omega) hk1 rfl rfl).trans hk)
      exact ⟨e1, g1, g2, g3, Nat.le_trans g4 (swp_wt (by omega) hk1 rfl rfl (hs k (k + 1) (by omega) hk1) (Nat.le_of_lt hk2))⟩
    · exact ⟨e, fun k hk1 => Nat.le_of_not_lt (fun h2 => h ⟨k, hk1, h2⟩), he, hk, Nat.le_refl _⟩
/-! sums over a row in another order -/
def hitN (pm : Nat → Nat) : Nat → Nat → Bool
  | 0, _ => false
  | n + 1, j => hitN pm n j || decide (pm n = j)
theorem hit_iff {pm : Nat → Nat} {j : Nat} : ∀ n, hitN pm n j = true ↔ ∃ k, k < n ∧ pm k = j
  | 0 => ⟨fun h => (by cases h), fun ⟨k, hk, _⟩ => absurd hk (by omega)⟩
  | n + 1 => by
    show (hitN pm n j || decide (pm n = j)) = true ↔ _
    rw [Bool.or_eq_true, hit_iff n, decide_eq_true_iff]
    constructor
    · rintro (⟨k, hk, e⟩ | e)
      · exact ⟨k, by omega, e⟩
      · exact ⟨n, by omega, e⟩
    · rintro ⟨k, hk, e⟩
      by_cases h : k = n
      · exact Or.inr (by rw [← h]; exact e)
      · exact Or.inl ⟨k, by omega, e⟩
theorem hit_sum {pm : Nat → Nat} (f : Nat → Nat) (h8 : ∀ i, i < 8 → pm i < 8) (hi : ∀ i, i < 8 → ∀ j, j < 8 → pm i = pm j → i = j) : ∀ n, n ≤ 8 → sumN (fun k => f (pm k)) n = sumN (fun j => if hitN pm n j = true then f j else 0) 8
  | 0, _ => by
    have : ∀ k, sumN (fun j => if hitN pm 0 j = true then f j else 0) k = 0 := by
      intro k
      induction k with
      | zero => rfl
      | succ k ih => show _ + 0 = 0; rw [ih]
    exact (this 8).symm
  | n + 1, hn => by
    have ih := hit_sum f h8 hi n (by omega)
    have hp := h8 n (by omega)
    have h1 := sumN_pull (f := fun j => if hitN pm (n + 1) j = true then f j else 0) (p := pm n) 8 hp
    have h2 := sumN_pull (f := fun j => if hitN pm n j = true then f j else 0) (p := pm n) 8 hp
    have h3 : (if hitN pm (n + 1) (pm n) = true then f (pm n) else 0) = f (pm n) := if_pos ((hit_iff (n + 1)).mpr ⟨n, by omega, rfl⟩)
    have h4 : (if hitN pm n (pm n) = true then f (pm n) else 0) = 0 := if_neg (fun h => by
      obtain ⟨k, hk, e⟩ := (hit_iff n).mp h
      have := hi k (by omega) n (by omega) e
      omega)
    have h5 : sumN (fun j => if j = pm n then 0 else if hitN pm (n + 1) j = true then f j else 0) 8 = sumN (fun j => if j = pm n then 0 else if hitN pm n j = true then f j else 0) 8 := sumN_ext 8 (fun j _ => by
      by_cases e : j = pm n
      · rw [if_pos e, if_pos e]
      · rw [if_neg e, if_neg e]
        have : hitN pm (n + 1) j = hitN pm n j := by
          show (hitN pm n j || decide (pm n = j)) = hitN pm n j
          rw [decide_eq_false (fun q => e q.symm), Bool.or_false]
        rw [this])
    have h6 : sumN (fun j => if hitN pm (n + 1) j = true then f j else 0) 8 = (if hitN pm (n + 1) (pm n) = true then f (pm n) else 0) + sumN (fun j => if j = pm n then 0 else if hitN pm (n + 1) j = true then f j else 0) 8 := h1
    have h7 : sumN (fun j => if hitN pm n j = true then f j else 0) 8 = (if hitN pm n (pm n) = true then f (pm n) else 0) + sumN (fun j => if j = pm n then 0 else if hitN pm n j = true then f j else 0) 8 := h2
    rw [h3, h5] at h6
    rw [h4] at h7
    show sumN (fun k => f (pm k)) n + f (pm n) = _
    omega
theorem sumN_full {f : Nat → Nat} : ∀ k, (∀ j, j < k → f j ≤ 1) → sumN f k = k → ∀ j, j < k → f j = 1
  | 0, _, _, j, hj => absurd hj (by omega)
  | k + 1, h, hs, j, hj => by
    have h1 : sumN f k + f k = k + 1 := hs
    have h2 := sumN_bd 1 k (f := f) (fun j hj => h j (by omega))
    have h3 := h k (by omega)
    by_cases e : j = k
    · rw [e]; omega
    · exact sumN_full k (fun j hj => h j (by omega)) (by omega) j (by omega)
theorem perm_sum {pm : Nat → Nat} (f : Nat → Nat) (h8 : ∀ i, i < 8 → pm i < 8) (hi : ∀ i, i < 8 → ∀ j, j < 8 → pm i = pm j → i = j) : sumN (fun k => f (pm k)) 8 = sumN f 8 := by
  have h1 := hit_sum (fun _ => 1) h8 hi 8 (by omega)
  have h2 : ∀ j, j < 8 → (if hitN pm 8 j = true then 1 else 0) = 1 := sumN_full 8 (fun j _ => by split <;> omega) (h1.symm.trans rfl)
  rw [hit_sum f h8 hi 8 (by omega)]
  refine sumN_ext 8 (fun j hj => ?_)
  have h3 := h2 j hj
  by_cases q : hitN pm 8 j = true
  · rw [if_pos q]
  · rw [if_neg q] at h3
    omega
theorem wt_all (W e : Nat → Nat) : hWt (fun _ => true) W e = sumN (fun j => W j * e j) 8 := sumN_ext 8 (fun _ _ => if_pos rfl)
theorem kr_all (e : Nat → Nat) : hKr (fun _ => true) e = sumN (fun j => 2 ^ (7 - e j)) 8 := sumN_ext 8 (fun _ _ => if_pos rfl)
theorem rg_huff {w sv : Nat → Nat} {l : Nat → Nat → Nat} (hs : srtN w sv 8) (hw : ∀ j, j < 8 → w j ≤ 99) (h0 : ∀ i, i < 8 → l i i = 0) (hk : ∀ i, ∀ j, i < j → j < 8 → rgK sv l i j) : l 0 7 = hSum w := by
  have hsv : ∀ j, j < 8 → sv j ≤ 99 := fun j hj => srtN_bd hs hw hj
  obtain ⟨hs1, pm, h8, hi, hp⟩ := hs
  refine Nat.le_antisymm ?_ ?_
  · obtain ⟨e1, g1, g2, g3, g4⟩ := srt_len hs1 _ (fun k => hLen w (pm k)) (Nat.le_refl _) (fun k hk1 => hLen_7 w (h8 k hk1)) (by
      rw [kr_all]
      exact (perm_sum (fun j => 2 ^ (7 - hLen w j)) h8 hi).trans (hKraft w))
    have h1 := rg_le h0 hk g1 g2 7 7 (by omega) 0 0 (by omega) (fun _ _ => Nat.zero_le _) (by
      rw [kr_all] at g3
      rw [← show sumN (fun j => 2 ^ (7 - e1 j)) 8 = sumN (fun d => 2 ^ (7 - e1 (0 + d))) (7 + 1) from sumN_ext 8 (fun d _ => by rw [Nat.zero_add])]
      exact g3)
    rw [wt_all, wt_all] at g4
    have h2 : sumN (fun d => sv (0 + d) * (e1 (0 + d) - 0)) (7 + 1) = sumN (fun j => sv j * e1 j) 8 := sumN_ext 8 (fun d _ => by rw [Nat.zero_add, Nat.sub_zero])
    have h3 : sumN (fun j => sv j * hLen w (pm j)) 8 = hSum w := by
      rw [hSum_eq, ← perm_sum (fun j => w j * hLen w j) h8 hi]
      exact sumN_ext 8 (fun j hj => by rw [hp j hj])
    have h4 : l 0 (0 + 7) = l 0 7 := rfl
    omega
  · obtain ⟨e, g1, g2, g3⟩ := rg_has hsv h0 hk 7 7 (Nat.le_refl _) 0 (by omega)
    have hinv : ∀ k, k < 8 → fstN (fun i => decide (pm i = pm k)) 8 = k := fun k hk1 => fstN_at hk1 (decide_eq_true rfl) (fun j hj h => by
      have := hi j (by omega) k hk1 (of_decide_eq_true h)
      omega) 8 hk1 (Nat.le_refl _)
    obtain ⟨e2, he2⟩ : ∃ q : Nat → Nat, q = fun j => e (fstN (fun i => decide (pm i = j)) 8) := ⟨_, rfl⟩
    have hq : ∀ k, k < 8 → e2 (pm k) = e k := fun k hk1 => by
      rw [he2]
      show e (fstN (fun i => decide (pm i = pm k)) 8) = e k
      rw [hinv k hk1]
    have hb : ∀ j, j < 8 → e2 j ≤ 7 := by
      have h1 := hit_sum (fun _ => 1) h8 hi 8 (by omega)
      have h2 : ∀ j, j < 8 → (if hitN pm 8 j = true then 1 else 0) = 1 := sumN_full 8 (fun j _ => by split <;> omega) (h1.symm.trans rfl)
      intro j hj
      have h3 := h2 j hj
      have h4 : hitN pm 8 j = true := by
        by_cases q : hitN pm 8 j = true
        · exact q
        · rw [if_neg q] at h3; omega
      obtain ⟨k, hk1, hk2⟩ := (hit_iff 8).mp h4
      rw [← hk2, hq k hk1]
      have := g1 k (by omega)
      rw [Nat.zero_add] at this
      exact this
    have h1 := hOpt w 7 0 (by omega) e2 hb (by
      have e1 : hKr (isR (hJ w 0).1) e2 = sumN (fun j => 2 ^ (7 - e2 j)) 8 := sumN_ext 8 (fun j _ => if_pos (decide_eq_true rfl))
      rw [e1, ← perm_sum (fun j => 2 ^ (7 - e2 j)) h8 hi, ← g2]
      exact sumN_ext 8 (fun d hd => by rw [hq d hd, Nat.zero_add]))
    have e1 : hWt (isR (hJ w 0).1) (hJ w 0).2.1 e2 = sumN (fun j => w j * e2 j) 8 := sumN_ext 8 (fun j _ => if_pos (decide_eq_true rfl))
    have e3 : sumN (fun j => w j * e2 j) 8 = sumN (fun d => sv (0 + d) * e (0 + d)) (7 + 1) := by
      rw [← perm_sum (fun j => w j * e2 j) h8 hi]
      exact sumN_ext 8 (fun d hd => by rw [hq d hd, Nat.zero_add, hp d hd])
    rw [e1, e3, ← g3] at h1
    have h4 : l 0 (0 + 7) = l 0 7 := rfl
    have h5 : (hJ w 0).2.2.2 = 0 := rfl
    omega
theorem srt_ext {w w2 sv : Nat → Nat} (h : srtN w sv 8) (hw : ∀ j, j < 8 → w j = w2 j) : srtN w2 sv 8 := by
  obtain ⟨h1, pm, h2, h3, h4⟩ := h
  exact ⟨h1, pm, h2, h3, fun i hi => by rw [h4 i hi, hw _ (h2 i hi)]⟩
