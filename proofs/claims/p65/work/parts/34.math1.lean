/-! codes: places, no code begins another, heavier symbols have no longer codes, the next value, the least cost of some -/
def hPos (ln : Nat → Nat) (s : Nat) : Nat := sumN (fun i => if bef ln i s = true then 2 ^ (7 - ln i) else 0) 8
theorem pos_val {ln : Nat → Nat} {s : Nat} (h7 : ∀ j, j < 8 → ln j ≤ 7) (hs : s < 8) : hPos ln s = 2 ^ (7 - ln s) * hVal ln s := by
  unfold hPos hVal
  rw [← sumN_mul]
  refine sumN_ext 8 (fun j hj => ?_)
  by_cases h : bef ln j s = true
  · have h1 := h7 s hs
    have h2 : ln j ≤ ln s := by
      rcases bef_iff.mp h with q | q <;> omega
    rw [if_pos h, if_pos h, ← Nat.pow_add]
    congr 1
    omega
  · rw [if_neg h, if_neg h, Nat.mul_zero]
theorem bef_trans {ln : Nat → Nat} {i j k : Nat} (h1 : bef ln i j = true) (h2 : bef ln j k = true) : bef ln i k = true := by
  have a := bef_iff.mp h1
  have b := bef_iff.mp h2
  refine bef_iff.mpr ?_
  omega
theorem bef_irr {ln : Nat → Nat} {i : Nat} : ¬ bef ln i i = true := fun h => by
  have a := bef_iff.mp h
  omega
theorem pos_step {ln : Nat → Nat} {i j : Nat} (hi : i < 8) (h : bef ln i j = true) : hPos ln i + 2 ^ (7 - ln i) ≤ hPos ln j := by
  unfold hPos
  rw [sumN_pull (f := fun q => if bef ln q j = true then 2 ^ (7 - ln q) else 0) (p := i) 8 hi]
  rw [if_pos h, Nat.add_comm]
  refine Nat.add_le_add_left (sumN_le 8 (fun q hq => ?_)) _
  by_cases e : q = i
  · subst e
    rw [if_neg bef_irr]
    exact Nat.zero_le _
  · rw [if_neg e]
    by_cases g : bef ln q i = true
    · rw [if_pos g, if_pos (bef_trans g h)]
      exact Nat.le_refl _
    · rw [if_neg g]
      exact Nat.zero_le _
theorem pos_top {ln : Nat → Nat} {s : Nat} (hk : sumN (fun j => 2 ^ (7 - ln j)) 8 = 128) (hs : s < 8) : hPos ln s + 2 ^ (7 - ln s) ≤ 128 := by
  unfold hPos
  rw [← hk, sumN_pull (f := fun q => 2 ^ (7 - ln q)) (p := s) 8 hs, Nat.add_comm]
  refine Nat.add_le_add_left (sumN_le 8 (fun q hq => ?_)) _
  by_cases e : q = s
  · subst e
    rw [if_neg bef_irr]
    exact Nat.zero_le _
  · rw [if_neg e]
    split
    · exact Nat.le_refl _
    · exact Nat.zero_le _
theorem val_lt {ln : Nat → Nat} {s : Nat} (h7 : ∀ j, j < 8 → ln j ≤ 7) (hk : sumN (fun j => 2 ^ (7 - ln j)) 8 = 128) (hs : s < 8) : hVal ln s < 2 ^ ln s := by
  have h1 := pos_top hk hs
  rw [pos_val h7 hs] at h1
  have h2 : 2 ^ (7 - ln s) * 2 ^ ln s = 128 := by
    rw [← Nat.pow_add, show 7 - ln s + ln s = 7 by have := h7 s hs; omega]
  rw [← h2, ← Nat.mul_succ] at h1
  exact Nat.lt_of_succ_le (Nat.le_of_mul_le_mul_left h1 (Nat.pow_pos (by decide)))
/-- no code begins another one -/
theorem val_pre {ln : Nat → Nat} {i j : Nat} (h7 : ∀ j, j < 8 → ln j ≤ 7) (hi : i < 8) (hj : j < 8) (hij : i ≠ j) (hl : ln i ≤ ln j) : ¬ hVal ln j / 2 ^ (ln j - ln i) = hVal ln i := by
  intro h
  have a1 := pos_val h7 hi
  have a2 := pos_val h7 hj
  have hp : 2 ^ (7 - ln i) = 2 ^ (7 - ln j) * 2 ^ (ln j - ln i) := by
    rw [← Nat.pow_add]
    congr 1
    have := h7 j hj
    omega
  have b0 := Nat.div_add_mod (hVal ln j) (2 ^ (ln j - ln i))
  have b1 := Nat.mod_lt (hVal ln j) (show 2 ^ (ln j - ln i) > 0 from Nat.pow_pos (by decide))
  rw [h] at b0
  -- hVal j = 2^d * hVal i + r, r < 2^d
  have c1 : hPos ln i ≤ hPos ln j := by
    rw [a1, a2, hp, Nat.mul_assoc]
    exact Nat.mul_le_mul_left _ (by omega)
  have c2 : hPos ln j < hPos ln i + 2 ^ (7 - ln i) := by
    rw [a1, a2, hp, Nat.mul_assoc, ← Nat.mul_add]
    exact Nat.mul_lt_mul_of_pos_left (by omega) (Nat.pow_pos (by decide))
  rcases bef_tot (ln := ln) hij with q | q
  · have := pos_step hi q
    omega
  · have := pos_step hj q
    have : 0 < 2 ^ (7 - ln j) := Nat.pow_pos (by decide)
    omega
/-- numbers of n bits that agree in each -/
theorem bits_eq : ∀ (n x y : Nat), x < 2 ^ n → y < 2 ^ n → (∀ i, i < n → x / 2 ^ (n - 1 - i) % 2 = y / 2 ^ (n - 1 - i) % 2) → x = y
  | 0, x, y, hx, hy, _ => by
    simp at hx hy
    omega
  | n + 1, x, y, hx, hy, h => by
    rw [Nat.pow_succ] at hx hy
    have e := bits_eq n (x / 2) (y / 2) (by omega) (by omega) (fun i hi => by
      have h1 := h i (by omega)
      rw [show n + 1 - 1 - i = (n - 1 - i) + 1 by omega, Nat.pow_succ, Nat.mul_comm, ← Nat.div_div_eq_div_mul, ← Nat.div_div_eq_div_mul] at h1
      exact h1)
    have h0 := h n (by omega)
    rw [show n + 1 - 1 - n = 0 by omega] at h0
    simp at h0
    omega
/-- a code's letters -/
def cdl (l v : Nat) : List Nat := (List.range l).map (fun i => 48 + codeB l v i)
theorem cdl_len (l v : Nat) : (cdl l v).length = l := by simp [cdl]
theorem cdl_at {l v i : Nat} (h : i < l) : (cdl l v).getD i 0 = 48 + codeB l v i := by
  rw [cdl, List.getD_eq_getElem?_getD, List.getElem?_map, List.getElem?_range h]
  rfl
theorem cdl_pre {li vi lj vj : Nat} (h1 : vi < 2 ^ li) (h2 : vj < 2 ^ lj) (h : lpre (cdl li vi) (cdl lj vj)) : li ≤ lj ∧ vj / 2 ^ (lj - li) = vi := by
  obtain ⟨a, b⟩ := h
  rw [cdl_len, cdl_len] at a
  rw [cdl_len] at b
  have b := (eqTo_iff _ _ _).mp b
  refine ⟨a, bits_eq li _ _ ?_ h1 (fun i hi => ?_)⟩
  · have : 2 ^ lj = 2 ^ (lj - li) * 2 ^ li := by rw [← Nat.pow_add, Nat.sub_add_cancel a]
    rw [this] at h2
    exact Nat.div_lt_of_lt_mul h2
  · have h3 := b i hi
    rw [cdl_at (by omega), cdl_at hi] at h3
    unfold codeB at h3
    rw [Nat.div_div_eq_div_mul, ← Nat.pow_add, show lj - li + (li - 1 - i) = lj - 1 - i by omega]
    omega
theorem cdl_free {w : Nat → Nat} {i j : Nat} (hi : i < 8) (hj : j < 8) (hij : i ≠ j) : ¬ lpre (cdl (hLen w i) (hVal (hLen w) i)) (cdl (hLen w j) (hVal (hLen w) j)) := by
  have h7 : ∀ j, j < 8 → hLen w j ≤ 7 := fun j hj => hLen_7 w hj
  intro h
  obtain ⟨a, b⟩ := cdl_pre (val_lt h7 (hKraft w) hi) (val_lt h7 (hKraft w) hj) h
  exact val_pre h7 hi hj hij a b
/-- the least cost of all -/
theorem sum_least (w : Nat → Nat) {e : Nat → Nat} (he : ∀ j, j < 8 → e j ≤ 7) (hk : sumN (fun j => 2 ^ (7 - e j)) 8 = 128) : hSum w ≤ sumN (fun j => w j * e j) 8 := by
  have hall : isR (fun j => j) = fun _ => true := funext (fun j => decide_eq_true rfl)
  have h := hOpt w 7 0 rfl e he (by
    show hKr (isR (fun j => j)) e = 128
    rw [hall, kr_all]
    exact hk)
  change hSum w ≤ 0 + hWt (isR (fun j => j)) w e at h
  rw [hall, wt_all] at h
  omega
theorem sum_3 (w : Nat → Nat) : hSum w ≤ 3 * sumN w 8 := by
  have h := sum_least w (e := fun _ => 3) (fun j _ => by omega) (by decide)
  rw [← sumN_mul]
  refine Nat.le_trans h (sumN_le 8 (fun j _ => by omega))
theorem swap_x (a c p q : Nat) : a * (c + q) + (a + p) * c + p * q = a * c + (a + p) * (c + q) := by
  rw [Nat.mul_add a c q, Nat.add_mul a p c, Nat.add_mul a p (c + q), Nat.mul_add a c q, Nat.mul_add p c q]
  omega
theorem swap_lt {a b c d : Nat} (h1 : a < b) (h2 : c < d) : a * d + b * c < a * c + b * d := by
  obtain ⟨x, rfl⟩ : ∃ x, b = a + x := ⟨b - a, by omega⟩
  obtain ⟨y, rfl⟩ : ∃ y, d = c + y := ⟨d - c, by omega⟩
  have e := swap_x a c x y
  have e4 : 0 < x * y := Nat.mul_pos (by omega) (by omega)
  omega
/-- a heavier symbol has no longer code -/
theorem hvy {w : Nat → Nat} {i j : Nat} (hi : i < 8) (hj : j < 8) (h : w j < w i) : hLen w i ≤ hLen w j := by
  refine Classical.byContradiction fun hn => ?_
  have hlt : hLen w j < hLen w i := by omega
  have hij : i ≠ j := fun e => by subst e; omega
  have h7 : ∀ j, j < 8 → hLen w j ≤ 7 := fun j hj => hLen_7 w hj
  have hk2 : sumN (fun q => 2 ^ (7 - swp (hLen w) i j q)) 8 = 128 := by
    have h2 := swp_kr (R := fun _ => true) (e := hLen w) hi hj rfl rfl
    rw [kr_all, kr_all] at h2
    exact h2.trans (hKraft w)
  have h1 := sum_least w (swp_bd hi hj h7) hk2
  rw [hSum_eq, sumN_two hij hi hj, sumN_two (f := fun q => w q * swp (hLen w) i j q) hij hi hj] at h1
  have hr : sumN (fun q => if q = i ∨ q = j then 0 else w q * hLen w q) 8 = sumN (fun q => if q = i ∨ q = j then 0 else w q * swp (hLen w) i j q) 8 := by
    refine sumN_ext 8 (fun q _ => ?_)
    by_cases e : q = i ∨ q = j
    · rw [if_pos e, if_pos e]
    · rw [if_neg e, if_neg e, swp_o (fun a => e (Or.inl a)) (fun a => e (Or.inr a))]
  rw [hr, swp_p, swp_q] at h1
  have := swap_lt h hlt
  omega
/-- the order of the codes -/
theorem nxt_bef {ln : Nat → Nat} {a b : Nat} (ha : a < 8) (hb : b < 8) (hr : rkN ln a < rkN ln b) : bef ln a b = true := by
  have hne : a ≠ b := fun e => by rw [e] at hr; omega
  rcases bef_tot (ln := ln) hne with q | q
  · exact q
  · have := rk_lt hb q
    omega
theorem nxt_pos {ln : Nat → Nat} {a b : Nat} (ha : a < 8) (hb : b < 8) (hr : rkN ln b = rkN ln a + 1) : hPos ln b = hPos ln a + 2 ^ (7 - ln a) := by
  have hbf := nxt_bef (ln := ln) ha hb (by omega)
  have e1 : hPos ln b = (if bef ln a b = true then 2 ^ (7 - ln a) else 0) + sumN (fun j => if j = a then 0 else if bef ln j b = true then 2 ^ (7 - ln j) else 0) 8 := sumN_pull (f := fun q => if bef ln q b = true then 2 ^ (7 - ln q) else 0) (p := a) 8 ha
  rw [e1, if_pos hbf, Nat.add_comm]
  congr 1
  unfold hPos
  refine sumN_ext 8 (fun q hq => ?_)
  by_cases e : q = a
  · rw [if_pos e, e, if_neg bef_irr]
  · rw [if_neg e]
    by_cases g : bef ln q b = true
    · have h1 := rk_lt hq g
      have h2 : bef ln q a = true := by
        rcases bef_tot (ln := ln) e with t | t
        · exact t
        · have := rk_lt ha t
          omega
      rw [if_pos g, if_pos h2]
    · rw [if_neg g]
      by_cases g2 : bef ln q a = true
      · exact absurd (bef_trans g2 hbf) g
      · rw [if_neg g2]
theorem nxt_val {ln : Nat → Nat} {a b : Nat} (h7 : ∀ j, j < 8 → ln j ≤ 7) (ha : a < 8) (hb : b < 8) (hr : rkN ln b = rkN ln a + 1) : hVal ln b = (hVal ln a + 1) * 2 ^ (ln b - ln a) := by
  have hbf := bef_iff.mp (nxt_bef (ln := ln) ha hb (by omega))
  have h := nxt_pos (ln := ln) ha hb hr
  rw [pos_val h7 ha, pos_val h7 hb] at h
  have hp : 2 ^ (7 - ln a) = 2 ^ (7 - ln b) * 2 ^ (ln b - ln a) := by
    rw [← Nat.pow_add]
    congr 1
    have := h7 _ hb
    omega
  rw [hp, ← Nat.mul_succ, Nat.mul_assoc] at h
  rw [Nat.mul_comm (hVal ln a + 1)]
  exact Nat.eq_of_mul_eq_mul_left (Nat.pow_pos (by decide)) h
theorem ord_bef {ln : Nat → Nat} {r : Nat} (hr : r + 1 < 8) : bef ln (hOrd ln r) (hOrd ln (r + 1)) = true := by
  obtain ⟨a1, a2⟩ := hOrd_8 ln (show r < 8 by omega)
  obtain ⟨b1, b2⟩ := hOrd_8 ln hr
  exact nxt_bef a1 b1 (by omega)
theorem ord_val {ln : Nat → Nat} {r : Nat} (h7 : ∀ j, j < 8 → ln j ≤ 7) (hr : r + 1 < 8) : hVal ln (hOrd ln (r + 1)) = (hVal ln (hOrd ln r) + 1) * 2 ^ (ln (hOrd ln (r + 1)) - ln (hOrd ln r)) := by
  obtain ⟨a1, a2⟩ := hOrd_8 ln (show r < 8 by omega)
  obtain ⟨b1, b2⟩ := hOrd_8 ln hr
  exact nxt_val h7 a1 b1 (by omega)
theorem fst_val {ln : Nat → Nat} {a : Nat} (hr : rkN ln a = 0) : hVal ln a = 0 := by
  unfold hVal
  have : ∀ k, k ≤ 8 → sumN (fun i => if bef ln i a = true then 2 ^ (ln a - ln i) else 0) k = 0 := by
    intro k
    induction k with
    | zero => intro _; rfl
    | succ k ih =>
      intro hk
      have hn : ¬ bef ln k a = true := fun g => by
        have := rk_lt (show k < 8 by omega) g
        omega
      rw [sumN, ih (by omega), if_neg hn]
  exact this 8 (Nat.le_refl 8)
theorem ord_0 {ln : Nat → Nat} : hVal ln (hOrd ln 0) = 0 := fst_val (hOrd_8 ln (show 0 < 8 by omega)).2
