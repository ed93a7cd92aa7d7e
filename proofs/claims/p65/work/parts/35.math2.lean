/-! texts, checksums, the queue's order, blocks -/
theorem crc_rest : ∀ r, r < 16 → crcS (crcS (crcS (crcS r (z4 r / 8 % 2)) (z4 r / 4 % 2)) (z4 r / 2 % 2)) (z4 r % 2) = 0 := by decide
/-- the check's own register: n letters of f, then the four of s -/
def rstB (n : Nat) (f : Nat → Nat) (s : Nat) : Nat → Nat
  | 0 => 0
  | k + 1 => crcS (rstB n f s k) (if k < n then f k else s / 2 ^ (3 + n - k) % 2)
theorem rst_eq {n s : Nat} {f : Nat → Nat} : ∀ k, k ≤ n → rstB n f s k = crcB n f k
  | 0, _ => rfl
  | k + 1, h => by
    rw [rstB, crcB, rst_eq k (by omega), if_pos (by omega), zbt, if_pos (by omega), Nat.sub_zero]
theorem crcB_15 {n : Nat} {f : Nat → Nat} (h : ∀ j, j < n → f j ≤ 1) : ∀ k, crcB n f k ≤ 15
  | 0 => by unfold crcB; omega
  | k + 1 => by rw [crcB]; exact crcS_le (crcB_15 h k) (zbt_le h 0 k)
theorem crcB_z {n : Nat} {f : Nat → Nat} : crcB n f (n + 4) = z4 (crcB n f n) := by
  have hz : ∀ i, zbt n f 0 (n + i) = 0 := fun i => by rw [zbt, if_neg (by omega)]
  rw [show n + 4 = n + 3 + 1 from rfl, crcB, crcB, crcB, crcB, hz 3, hz 2, hz 1, show zbt n f 0 n = 0 from hz 0]
  rfl
theorem rst_0 {n : Nat} {f : Nat → Nat} (h : ∀ j, j < n → f j ≤ 1) : rstB n f (crcB n f (n + 4)) (n + 4) = 0 := by
  have e := crc_rest (crcB n f n) (by have := crcB_15 h n; omega)
  rw [← crcB_z] at e
  rw [show n + 4 = n + 3 + 1 from rfl, rstB, rstB, rstB, rstB, rst_eq n (Nat.le_refl n), if_neg (by omega), if_neg (by omega), if_neg (by omega), if_neg (by omega)]
  rw [show 3 + n - n = 3 by omega, show 3 + n - (n + 1) = 2 by omega, show 3 + n - (n + 2) = 1 by omega, show 3 + n - (n + 3) = 0 by omega]
  rw [Nat.pow_zero, Nat.div_one]
  exact e
theorem rst_15 {n s : Nat} {f : Nat → Nat} (h : ∀ j, j < n → f j ≤ 1) : ∀ k, rstB n f s k ≤ 15
  | 0 => by unfold rstB; omega
  | k + 1 => by
    rw [rstB]
    refine crcS_le (rst_15 h k) ?_
    split
    · exact h k (by omega)
    · omega
theorem crcS_big {r b : Nat} : crcS r b = if 15 < r * 2 + b then (r * 2 + b) ^^^ 19 else r * 2 + b := by
  unfold crcS
  by_cases h : r * 2 + b < 16
  · rw [if_pos h, if_neg (by omega)]
  · rw [if_neg h, if_pos (by omega)]
/-! common letters -/
theorem lcs_lei (a b : Nat → Nat) : ∀ i j, lcs a b i j ≤ i
  | 0, _ => by unfold lcs; omega
  | _ + 1, 0 => by unfold lcs; omega
  | i + 1, j + 1 => by
    have h1 := lcs_lei a b i j
    have h2 := lcs_lei a b i (j + 1)
    have h3 := lcs_lei a b (i + 1) j
    unfold lcs
    split
    · omega
    · split <;> omega
theorem lcs_self (a : Nat → Nat) : ∀ n, lcs a a n n = n
  | 0 => by unfold lcs; rfl
  | n + 1 => by rw [lcs, if_pos rfl, lcs_self a n]
theorem lcs_sym (a b : Nat → Nat) : ∀ i j, lcs a b i j = lcs b a j i
  | 0, j => by rw [lcs_z, lcs_0]
  | i + 1, 0 => by rw [lcs_0, lcs_z]
  | i + 1, j + 1 => by
    rw [lcs, lcs, lcs_sym a b i j, lcs_sym a b i (j + 1), lcs_sym a b (i + 1) j]
    by_cases h : a i = b j
    · rw [if_pos h, if_pos (show b j = a i from h.symm)]
    · rw [if_neg h, if_neg (show ¬ b j = a i from fun e => h e.symm)]
      split <;> split <;> omega
theorem lcs_ext {a b a2 b2 : Nat → Nat} : ∀ i j, (∀ q, q < i → a q = a2 q) → (∀ q, q < j → b q = b2 q) → lcs a b i j = lcs a2 b2 i j
  | 0, j, _, _ => by rw [lcs_z, lcs_z]
  | i + 1, 0, _, _ => by rw [lcs_0, lcs_0]
  | i + 1, j + 1, h1, h2 => by
    rw [lcs, lcs, lcs_ext i j (fun q hq => h1 q (by omega)) (fun q hq => h2 q (by omega)), lcs_ext i (j + 1) (fun q hq => h1 q (by omega)) h2, lcs_ext (i + 1) j h1 (fun q hq => h2 q (by omega)), h1 i (by omega), h2 j (by omega)]
theorem lcs_all {a b : Nat → Nat} : ∀ n, lcs a b n n = n → ∀ j, j < n → a j = b j
  | 0, _, j, hj => absurd hj (Nat.not_lt_zero j)
  | n + 1, h, j, hj => by
    rw [lcs] at h
    by_cases e : a n = b n
    · rw [if_pos e] at h
      by_cases q : j = n
      · rw [q]; exact e
      · exact lcs_all n (by omega) j (by omega)
    · rw [if_neg e] at h
      have h1 := lcs_lei a b n (n + 1)
      have h2 := lcs_le a b (n + 1) n
      split at h <;> omega
theorem lcs_eq {a b : Nat → Nat} {n m : Nat} : (n = m ∧ eqTo a b n = true) ↔ (lcs a b n m = n ∧ lcs a b n m = m) := by
  constructor
  · rintro ⟨rfl, h⟩
    have h := (eqTo_iff a b n).mp h
    have e : lcs a b n n = n := by
      rw [lcs_ext (a2 := a) (b2 := a) n n (fun q _ => rfl) (fun q hq => (h q hq).symm), lcs_self]
    exact ⟨e, e⟩
  · rintro ⟨h1, h2⟩
    have e : n = m := h1.symm.trans h2
    subst e
    exact ⟨rfl, (eqTo_iff a b n).mpr (lcs_all n h1)⟩
theorem lcs_tm (a b : Nat → Nat) (c : Nat) : ∀ i j, tmOf a c i ≤ lcs a b i j ∨ tmOf b c j ≤ lcs a b i j
  | 0, j => Or.inl (by unfold tmOf; omega)
  | i + 1, 0 => Or.inr (by unfold tmOf; omega)
  | i + 1, j + 1 => by
    have h1 := lcs_tm a b c i j
    have h2 := lcs_tm a b c i (j + 1)
    have h3 := lcs_tm a b c (i + 1) j
    rw [lcs]
    by_cases e : a i = b j
    · rw [if_pos e, tmOf, tmOf]
      rcases h1 with h1 | h1
      · left; split <;> omega
      · right; split <;> omega
    · rw [if_neg e]
      have hm : lcs a b i (j + 1) ≤ (if lcs a b i (j + 1) < lcs a b (i + 1) j then lcs a b (i + 1) j else lcs a b i (j + 1)) ∧ lcs a b (i + 1) j ≤ (if lcs a b i (j + 1) < lcs a b (i + 1) j then lcs a b (i + 1) j else lcs a b i (j + 1)) := by split <;> omega
      by_cases g : a i = c
      · have hb : ¬ b j = c := fun q => e (g.trans q.symm)
        have : tmOf b c (j + 1) = tmOf b c j := by rw [tmOf, if_neg hb]
        rw [this]
        rcases h3 with h3 | h3
        · left; omega
        · right; omega
      · have : tmOf a c (i + 1) = tmOf a c i := by rw [tmOf, if_neg g]
        rw [this]
        rcases h2 with h2 | h2
        · left; omega
        · right; omega
/-- letters counted one by one -/
theorem tm_all {s : Nat → Nat} : ∀ n, (∀ j, j < n → isSy (s j)) → sumN (fun j => tmOf s (97 + j) n) 8 = n
  | 0, _ => by
    have : ∀ k, sumN (fun j => tmOf s (97 + j) 0) k = 0 := by
      intro k
      induction k with
      | zero => rfl
      | succ k ih => rw [sumN, ih]; rfl
    exact this 8
  | n + 1, h => by
    have hs := h n (by omega)
    have ih := tm_all n (fun j hj => h j (by omega))
    have e : ∀ j, tmOf s (97 + j) (n + 1) = tmOf s (97 + j) n + (if j = s n - 97 then 1 else 0) := by
      intro j
      rw [tmOf]
      have hiff : (s n = 97 + j) ↔ (j = s n - 97) := by unfold isSy at hs; omega
      by_cases q : s n = 97 + j
      · rw [if_pos q, if_pos (hiff.mp q)]
      · rw [if_neg q, if_neg (fun t => q (hiff.mpr t)), Nat.add_zero]
    rw [sumN_ext 8 (fun j _ => e j), sumN_add, ih]
    have hlt : s n - 97 < 8 := by unfold isSy at hs; omega
    rw [sumN_pull (p := s n - 97) 8 hlt, if_pos rfl]
    have : sumN (fun j => if j = s n - 97 then 0 else if j = s n - 97 then 1 else 0) 8 = 0 := by
      rw [sumN_ext (g := fun _ => 0) 8 (fun j _ => by split <;> rfl)]
      rfl
    rw [this]
/-! the queue's order -/
theorem befM_tot {a b : mS} (h : a.1 ≠ b.1) : befM a b ∨ befM b a := by
  unfold befM
  omega
theorem befM_tr {a b c : mS} (h1 : befM a b) (h2 : befM b c) : befM a c := by
  unfold befM at h1 h2 ⊢
  omega
theorem befM_ir {a : mS} : ¬ befM a a := by
  unfold befM
  omega
theorem rkM_sub {m : Nat → mS} {i j : Nat} (h : befM (m i) (m j)) : ∀ k, rkM m i k ≤ rkM m j k ∧ (i < k → rkM m i k < rkM m j k)
  | 0 => ⟨Nat.le_refl _, fun q => absurd q (Nat.not_lt_zero i)⟩
  | k + 1 => by
    obtain ⟨h1, h2⟩ := rkM_sub h k
    rw [rkM, rkM]
    by_cases e : k = i
    · subst e
      rw [if_neg befM_ir, if_pos h]
      exact ⟨by omega, fun _ => by omega⟩
    · by_cases g : befM (m k) (m i)
      · rw [if_pos g, if_pos (befM_tr g h)]
        exact ⟨by omega, fun q => by have := h2 (by omega); omega⟩
      · rw [if_neg g]
        split
        · exact ⟨by omega, fun q => by omega⟩
        · exact ⟨h1, fun q => h2 (by omega)⟩
theorem surj8 {f : Nat → Nat} (h8 : ∀ i, i < 8 → f i < 8) (hi : ∀ i j, i < 8 → j < 8 → f i = f j → i = j) {r : Nat} (hr : r < 8) : ∃ j, j < 8 ∧ f j = r := by
  refine Classical.byContradiction fun hn => ?_
  have hne : ∀ j, j < 8 → f j ≠ r := fun j hj e => hn ⟨j, hj, e⟩
  have hp := cntN_pig (f := fun j => if f j < r then f j else f j - 1) (fun i j h1 h2 e => by
    have a1 := hne i h1
    have a2 := hne j h2
    refine hi i j h1 h2 ?_
    split at e <;> split at e <;> omega) 7
  have ha : ∀ k, k ≤ 8 → cntN (fun j => decide ((if f j < r then f j else f j - 1) < 7)) k = k := by
    intro k
    induction k with
    | zero => intro _; rfl
    | succ k ih =>
      intro hk
      have a1 := hne k (by omega)
      have a2 := h8 k (by omega)
      have hlt : (if f k < r then f k else f k - 1) < 7 := by split <;> omega
      rw [cntN, ih (by omega), decide_eq_true hlt]
      rfl
  rw [ha 8 (Nat.le_refl 8)] at hp
  omega
/-- ranks of k messages of different ids -/
theorem rk_all {m : Nat → mS} {k : Nat} (hk : k ≤ 8) (hid : ∀ i, ∀ j, i < j → j < k → (m i).1 < (m j).1) {r : Nat} (hr : r < k) : ∃ j, j < k ∧ rkM m j k = r := by
  have hne : ∀ i j, i < k → j < k → i ≠ j → (m i).1 ≠ (m j).1 := fun i j h1 h2 e => by
    rcases Nat.lt_or_ge i j with q | q
    · have := hid i j q h2
      omega
    · have := hid j i (by omega) h1
      omega
  have hlt : ∀ i, i < k → rkM m i k < k := by
    intro i hi
    have : ∀ q, rkM m i q ≤ q ∧ (i < q → rkM m i q < q) := by
      intro q
      induction q with
      | zero => exact ⟨Nat.le_refl _, fun h => absurd h (Nat.not_lt_zero i)⟩
      | succ q ih =>
        rw [rkM]
        by_cases e : q = i
        · subst e
          rw [if_neg befM_ir]
          exact ⟨by omega, fun _ => by omega⟩
        · split
          · exact ⟨by omega, fun h => by have := ih.2 (by omega); omega⟩
          · exact ⟨by omega, fun h => by have := ih.1; omega⟩
    exact (this k).2 hi
  obtain ⟨j, h1, h2⟩ := surj8 (f := fun i => if i < k then rkM m i k else i) (fun i hi => by
    split
    · rename_i q
      have := hlt i q
      omega
    · exact hi) (fun i j h1 h2 e => by
    by_cases q1 : i < k
    · by_cases q2 : j < k
      · rw [if_pos q1, if_pos q2] at e
        refine Classical.byContradiction fun hij => ?_
        rcases befM_tot (hne i j q1 q2 hij) with t | t
        · have := (rkM_sub t k).2 q1
          omega
        · have := (rkM_sub t k).2 q2
          omega
      · rw [if_pos q1, if_neg q2] at e
        have := hlt i q1
        omega
    · by_cases q2 : j < k
      · rw [if_neg q1, if_pos q2] at e
        have := hlt j q2
        omega
      · rw [if_neg q1, if_neg q2] at e
        exact e) (show r < 8 by omega)
  by_cases q : j < k
  · rw [if_pos q] at h2
    exact ⟨j, q, h2⟩
  · rw [if_neg q] at h2
    omega
theorem rankAt_ok {m : Nat → mS} {k : Nat} (hk : k ≤ 8) (hid : ∀ i, ∀ j, i < j → j < k → (m i).1 < (m j).1) {r : Nat} (hr : r < k) : rankAt m (nI r) k < k ∧ rkM m (rankAt m (nI r) k) k = r := by
  obtain ⟨j, h1, h2⟩ := rk_all hk hid hr
  have hlt : rankAt m (nI r) k < k := by
    refine Classical.byContradiction fun hn => ?_
    have h0 : ∀ n, n ≤ k → ∀ q, q < n → n ≤ fsN (fun i => decide (nI (rkM m i k) = nI r)) n → decide (nI (rkM m q k) = nI r) = false := by
      intro n
      induction n with
      | zero => intro _ q hq; exact absurd hq (Nat.not_lt_zero q)
      | succ n ih =>
        intro hn q hq hf
        rw [fsN] at hf
        split at hf
        · omega
        · rename_i h3
          split at hf
          · omega
          · rename_i h4
            by_cases e : q = n
            · rw [e]; exact Bool.eq_false_iff.mpr h4
            · exact ih (by omega) q (by omega) (by omega)
    have := h0 k (Nat.le_refl k) j h1 (Nat.le_of_not_lt hn)
    rw [h2] at this
    simp at this
  refine ⟨hlt, ?_⟩
  have h3 := (fsN_sp (P := fun i => decide (nI (rkM m i k) = nI r)) k hlt).1
  have h4 := of_decide_eq_true h3
  have h5 := rkM_le m (rankAt m (nI r) k) k
  exact nI_inj (by omega) (by omega) h4
theorem rank_bef {m : Nat → mS} {k i j : Nat} (hid : ∀ i, ∀ j, i < j → j < k → (m i).1 < (m j).1) (hi : i < k) (hj : j < k) (h : rkM m i k < rkM m j k) : befM (m i) (m j) := by
  have hij : i ≠ j := fun e => by subst e; omega
  have hne : (m i).1 ≠ (m j).1 := by
    rcases Nat.lt_or_ge i j with q | q
    · have := hid i j q hj
      omega
    · have := hid j i (by omega) hi
      omega
  rcases befM_tot hne with t | t
  · exact t
  · have := (rkM_sub t k).2 hj
    omega
theorem idAt_of {m : Nat → mS} {k i : Nat} (hid : ∀ i, ∀ j, i < j → j < k → (m i).1 < (m j).1) (hb : ∀ i, i < k → (m i).1 < 1000) (hi : i < k) : idAt m (nI (m i).1) k = i := by
  refine fsN_hit (decide_eq_true rfl) (fun j hj => decide_eq_false (fun e => ?_)) k hi
  have h1 := hb i hi
  have h2 := hb j (by omega)
  have := nI_inj (by omega) (by omega) e
  have := hid j i hj hi
  omega
/-! blocks -/
def rgt (d j : Nat) : Nat := [d / 8 % 2 ^^^ d / 4 % 2 ^^^ d % 2, d / 8 % 2 ^^^ d / 2 % 2 ^^^ d % 2, d / 8 % 2, d / 4 % 2 ^^^ d / 2 % 2 ^^^ d % 2, d / 4 % 2, d / 2 % 2, d % 2].getD j 0
theorem blk_one : ∀ x, x < 128 → ∀ j, j < 7 → (bitP x (j + 1) ≠ rgt (datN (corN x)) j ↔ syn x = j + 1) := by decide +kernel
theorem blk_dat : ∀ x, x < 128 → datN (corN x) < 16 := by decide +kernel
