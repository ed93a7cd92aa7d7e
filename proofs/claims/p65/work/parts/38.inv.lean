/-! what holds of every state that the law reaches -/
theorem decS_le (ln vl b : Nat → Nat) (tn : Nat) : ∀ i, (decS ln vl b tn i).2.2.1 ≤ tn
  | 0 => Nat.zero_le _
  | i + 1 => by
    have ih := decS_le ln vl b tn i
    show (decT ln vl tn (datB b i) (decS ln vl b tn i)).2.2.1 ≤ tn
    unfold decT
    split
    · split
      · show _ + 1 ≤ tn; omega
      · exact ih
    · exact ih
theorem lrnW_b {w : Nat → Nat} {e : mS} {j : Nat} (h : 1 ≤ w j ∧ w j ≤ 99) : 1 ≤ lrnW w e j ∧ lrnW w e j ≤ 99 := by
  unfold lrnW
  split <;> omega
theorem nblk_le {w : Nat → Nat} {e : mS} (h : e.2.2.1 ≤ 16) : nblk w e ≤ 28 := by
  have h1 := bitsN_le (ln := hLen w) (fun j hj => hLen_7 w hj) e.2.2.2 e.2.2.1
  unfold nblk
  omega
theorem blks_lt (w : Nat → Nat) (e : mS) (j : Nat) : blks w e j < 128 := by
  have h := fourB_le (n := bitsN (hLen w) e.2.2.2 e.2.2.1) (f := splB (hLen w) (hVal (hLen w)) e.2.2.2 e.2.2.1) (fun j _ => splB_le _ _ _ _ j) 0 (4 * j)
  exact blk_lt _ (by omega)
theorem flpB_lt {b : Nat → Nat} {k : Nat} (q : Nat) (h : ∀ j, j < k → b j < 128) : ∀ j, j < k → flpB b q j < 128 := by
  intro j hj
  unfold flpB
  by_cases e : j = q / 7
  · rw [← e, updN_eq]
    exact Nat.xor_lt_two_pow (n := 7) (h j hj) (by
      have : 2 ^ (7 - (q % 7 + 1)) ≤ 2 ^ 6 := Nat.pow_le_pow_right (by omega) (by omega)
      omega)
  · rw [updN_ne e]
    exact h j hj
def pMsg (nx : Nat) (e : mS) : Prop := e.1 < nx ∧ (1 ≤ e.2.1 ∧ e.2.1 ≤ 5) ∧ (1 ≤ e.2.2.1 ∧ e.2.2.1 ≤ 16) ∧ ∀ j, j < e.2.2.1 → isSy (e.2.2.2 j)
def pInv (A : aS) : Prop :=
  (A.2.1.1 ≤ 16 ∧ A.2.2.1.1 ≤ 8 ∧ A.2.2.2.1.1 ≤ 28 ∧ A.2.2.2.1.2.2.1 ≤ 16 ∧ A.2.2.2.2.1.1 ≤ 16) ∧
  (∀ j, j < 8 → 1 ≤ A.1 j ∧ A.1 j ≤ 99) ∧ (∀ j, j < A.2.1.1 → isSy (A.2.1.2 j)) ∧
  (∀ i, i < A.2.2.1.1 → pMsg A.2.2.1.2.1 (A.2.2.1.2.2 i)) ∧
  (∀ i, ∀ j, i < j → j < A.2.2.1.1 → (A.2.2.1.2.2 i).1 < (A.2.2.1.2.2 j).1) ∧
  (∀ b, b < A.2.2.2.1.1 → A.2.2.2.1.2.1 b < 128) ∧
  (A.2.2.2.2.2.2.2.2 ≤ A.2.2.2.2.2.2.1 ∧ A.2.2.2.2.2.2.1 ≤ A.2.2.2.2.2.1 ∧ (0 < A.2.2.2.1.1 → A.2.2.2.2.2.2.1 + 1 ≤ A.2.2.2.2.2.1))
/-- a step keeps it, and counts on by one at most -/
def pOk (A : aS) (r : Int32 × aS) : Prop := pInv r.2 ∧ r.2.2.2.1.2.1 ≤ A.2.2.1.2.1 + 1 ∧ r.2.2.2.2.2.2.1 ≤ A.2.2.2.2.2.1 + 1
theorem pOk_id {A : aS} (h : pInv A) (v : Int32) : pOk A (v, A) := ⟨h, Nat.le_succ _, Nat.le_succ _⟩
theorem pOk_Wt {A : aS} (h : pInv A) (c : Nat) (x : Int32) : pOk A (aWt A c x) := by
  unfold aWt
  split
  · rename_i q
    obtain ⟨h0, h1⟩ := i2n_ge q.2.1 (by decide)
    have h2 := i2n_le h0 q.2.2 (by decide)
    refine ⟨⟨h.1, fun j hj => ?_, h.2.2⟩, Nat.le_succ _, Nat.le_succ _⟩
    show 1 ≤ updN A.1 (c - 97) x.toNatClampNeg j ∧ updN A.1 (c - 97) x.toNatClampNeg j ≤ 99
    by_cases e : j = c - 97
    · rw [e, updN_eq]; exact ⟨h1, h2⟩
    · rw [updN_ne e]; exact h.2.1 j hj
  · exact pOk_id h _
theorem pOk_Dr {A : aS} (h : pInv A) (c : Nat) : pOk A (aDr A c) := by
  unfold aDr
  split
  · rename_i q
    split
    · rename_i h2
      refine ⟨⟨⟨by show A.2.1.1 + 1 ≤ 16; omega, h.1.2⟩, h.2.1, fun j hj => ?_, h.2.2.2⟩, Nat.le_succ _, Nat.le_succ _⟩
      change j < A.2.1.1 + 1 at hj
      show isSy (updN A.2.1.2 A.2.1.1 c j)
      by_cases e : j = A.2.1.1
      · rw [e, updN_eq]; exact q
      · rw [updN_ne e]; exact h.2.2.1 j (by omega)
    · exact pOk_id h _
  · exact pOk_id h _
theorem pOk_Po {A : aS} (h : pInv A) (p : Int32) : pOk A (aPo A p) := by
  have hI := h
  obtain ⟨⟨u1, u2, u3, u4, u5⟩, uw, ud, um, uo, ub, ut⟩ := h
  unfold aPo
  split
  · rename_i q
    split
    · exact pOk_id hI _
    · rename_i h2
      have h1 : nI 1 ≤ p := q.1
      have h5 : p ≤ nI 5 := q.2
      obtain ⟨h0, h1⟩ := i2n_ge h1 (by decide)
      have h5 := i2n_le h0 h5 (by decide)
      refine ⟨⟨⟨Nat.zero_le _, by show _ + 1 ≤ 8; omega, u3, u4, u5⟩, uw, fun j hj => absurd hj (Nat.not_lt_zero j), fun i hi => ?_, fun i j hij hj => ?_, ub, ut⟩, Nat.le_refl _, Nat.le_succ _⟩
      · change i < A.2.2.1.1 + 1 at hi
        show pMsg (A.2.2.1.2.1 + 1) (updA A.2.2.1.2.2 A.2.2.1.1 (A.2.2.1.2.1, p.toNatClampNeg, A.2.1.1, A.2.1.2) i)
        by_cases e : i = A.2.2.1.1
        · rw [e, updA_eq]
          exact ⟨by show A.2.2.1.2.1 < A.2.2.1.2.1 + 1; omega, ⟨h1, h5⟩, ⟨by show 1 ≤ A.2.1.1; omega, u1⟩, ud⟩
        · rw [updA_ne e]
          have := um i (by omega)
          exact ⟨by have := this.1; omega, this.2⟩
      · change j < A.2.2.1.1 + 1 at hj
        show (updA A.2.2.1.2.2 A.2.2.1.1 (A.2.2.1.2.1, p.toNatClampNeg, A.2.1.1, A.2.1.2) i).1 < (updA A.2.2.1.2.2 A.2.2.1.1 (A.2.2.1.2.1, p.toNatClampNeg, A.2.1.1, A.2.1.2) j).1
        by_cases e : j = A.2.2.1.1
        · rw [e, updA_eq, updA_ne (by omega)]
          exact (um i (by omega)).1
        · rw [updA_ne e, updA_ne (by omega)]
          exact uo i j hij (by omega)
  · exact pOk_id hI _
theorem pInv_Rm {A : aS} (h : pInv A) {r : Nat} (hr : r < A.2.2.1.1) : pInv (aRm A r) := by
  obtain ⟨⟨u1, u2, u3, u4, u5⟩, uw, ud, um, uo, ub, ut⟩ := h
  refine ⟨⟨u1, by show _ - 1 ≤ 8; omega, u3, u4, u5⟩, uw, ud, fun i hi => ?_, fun i j hij hj => ?_, ub, ut⟩
  · change i < A.2.2.1.1 - 1 at hi
    exact um _ (shI_k hr (by omega))
  · change j < A.2.2.1.1 - 1 at hj
    refine uo _ _ ?_ (shI_k hr (by omega))
    unfold shI
    rw [if_pos (show i + 1 < A.2.2.1.1 by omega), if_pos (show j + 1 < A.2.2.1.1 by omega)]
    split <;> split <;> omega
theorem pOk_Di {A : aS} (h : pInv A) (v : Int32) : pOk A (aDi A v) := by
  unfold aDi
  split
  · rename_i q
    exact ⟨pInv_Rm h q, Nat.le_succ _, Nat.le_succ _⟩
  · exact pOk_id h _
theorem pOk_Hu {A : aS} (h : pInv A) (v p : Int32) : pOk A (aHu A v p) := by
  have hI := h
  obtain ⟨⟨u1, u2, u3, u4, u5⟩, uw, ud, um, uo, ub, ut⟩ := h
  unfold aHu
  split
  · generalize idAt A.2.2.1.2.2 v A.2.2.1.1 = r
    split
    · rename_i q
      have h1 : nI 1 ≤ p := q.1
      have h5 : p ≤ nI 5 := q.2
      obtain ⟨h0, h1⟩ := i2n_ge h1 (by decide)
      have h5 := i2n_le h0 h5 (by decide)
      have hid : ∀ i, (updA A.2.2.1.2.2 r (prS (A.2.2.1.2.2 r) p.toNatClampNeg) i).1 = (A.2.2.1.2.2 i).1 := fun i => by
        by_cases e : i = r
        · rw [e, updA_eq]; rfl
        · rw [updA_ne e]
      refine ⟨⟨⟨u1, u2, u3, u4, u5⟩, uw, ud, fun i hi => ?_, fun i j hij hj => ?_, ub, ut⟩, Nat.le_succ _, Nat.le_succ _⟩
      · show pMsg A.2.2.1.2.1 (updA A.2.2.1.2.2 r (prS (A.2.2.1.2.2 r) p.toNatClampNeg) i)
        refine ⟨by rw [hid]; exact (um i hi).1, ?_⟩
        by_cases e : i = r
        · rw [e, updA_eq]
          exact ⟨⟨h1, h5⟩, (um r (e ▸ hi)).2.2⟩
        · rw [updA_ne e]
          exact (um i hi).2
      · show (updA A.2.2.1.2.2 r (prS (A.2.2.1.2.2 r) p.toNatClampNeg) i).1 < (updA A.2.2.1.2.2 r (prS (A.2.2.1.2.2 r) p.toNatClampNeg) j).1
        rw [hid, hid]
        exact uo i j hij hj
    · exact pOk_id hI _
  · exact pOk_id hI _
theorem pOk_Le {A : aS} (h : pInv A) (v : Int32) : pOk A (aLe A v) := by
  unfold aLe
  split
  · exact ⟨⟨h.1, fun j hj => lrnW_b (h.2.1 j hj), h.2.2⟩, Nat.le_succ _, Nat.le_succ _⟩
  · exact pOk_id h _
theorem pInv_Fr {A : aS} (h : pInv A) {r : Nat} (hr : r < A.2.2.1.1) : pInv (aFr A (A.2.2.1.2.2 r)) := by
  obtain ⟨⟨u1, u2, u3, u4, u5⟩, uw, ud, um, uo, ub, ut⟩ := h
  have hm := (um r hr).2.2.1
  exact ⟨⟨u1, u2, nblk_le hm.2, hm.2, u5⟩, uw, ud, um, uo, fun b _ => blks_lt _ _ b, ut.1, by show A.2.2.2.2.2.2.1 ≤ A.2.2.2.2.2.1 + 1; have := ut.2.1; omega, fun _ => by show A.2.2.2.2.2.2.1 + 1 ≤ A.2.2.2.2.2.1 + 1; have := ut.2.1; omega⟩
theorem pOk_Se {A : aS} (h : pInv A) : pOk A (aSe A) := by
  unfold aSe
  split
  · rename_i q
    exact ⟨pInv_Rm (pInv_Fr h q) q, Nat.le_succ _, Nat.le_refl _⟩
  · exact pOk_id h _
theorem pOk_Fl {A : aS} (h : pInv A) (i : Int32) : pOk A (aFl A i) := by
  unfold aFl
  split
  · obtain ⟨⟨u1, u2, u3, u4, u5⟩, uw, ud, um, uo, ub, ut⟩ := h
    exact ⟨⟨⟨u1, u2, u3, u4, u5⟩, uw, ud, um, uo, flpB_lt _ ub, ut⟩, Nat.le_succ _, Nat.le_succ _⟩
  · exact pOk_id h _
theorem pOk_Re {A : aS} (h : pInv A) : pOk A (aRe A) := by
  unfold aRe
  split
  · rename_i q
    obtain ⟨⟨u1, u2, u3, u4, u5⟩, uw, ud, um, uo, ub, ut⟩ := h
    refine ⟨⟨⟨u1, u2, Nat.zero_le _, u4, Nat.le_trans (decS_le _ _ _ _ _) u4⟩, uw, ud, um, uo, fun b hb => absurd hb (Nat.not_lt_zero b), ?_, ?_, fun hk => absurd hk (Nat.lt_irrefl 0)⟩, Nat.le_succ _, Nat.le_succ _⟩
    · show (if sameA A then A.2.2.2.2.2.2.2.2 else A.2.2.2.2.2.2.2.2 + 1) ≤ A.2.2.2.2.2.2.1 + 1
      have := ut.1
      split <;> omega
    · exact ut.2.2 q
  · exact pOk_id h _
theorem pInv_0 : pInv aS0 := ⟨⟨Nat.zero_le _, Nat.zero_le _, Nat.zero_le _, Nat.zero_le _, Nat.zero_le _⟩, fun _ _ => ⟨Nat.le_refl 1, by show 1 ≤ 99; omega⟩, fun j hj => absurd hj (Nat.not_lt_zero j), fun j hj => absurd hj (Nat.not_lt_zero j), fun i j _ hj => absurd hj (Nat.not_lt_zero j), fun j hj => absurd hj (Nat.not_lt_zero j), Nat.le_refl _, Nat.le_refl _, fun h => absurd h (Nat.lt_irrefl 0)⟩
/-- the coder behind at most N changes -/
def pBd (M : mcS) (N : Nat) : Prop := pInv M.1 ∧ M.2.2.2.2.2.2.1 ≤ N ∧ M.2.2.2.2.2.2.2.1 ≤ 8 ∧ M.1.2.2.1.2.1 ≤ N ∧ M.1.2.2.2.2.2.1 ≤ N
theorem pBd_chg {M : mcS} {N : Nat} {r : Int32 × aS} (h : pBd M N) (hr : pOk M.1 r) : pBd (chgM M r) (N + 1) := by
  obtain ⟨h1, h2, h3, h4, h5⟩ := h
  obtain ⟨r1, r2, r3⟩ := hr
  refine ⟨r1, ?_, ?_, ?_, ?_⟩
  · show chP r.1 M.2.2.2.2.2.2.1 ≤ N + 1
    unfold chP
    split <;> omega
  · show chU r.1 M.2.2.2.2.2.2.2.1 ≤ 8
    unfold chU un1
    split
    · exact h3
    · split <;> omega
  · show r.2.2.2.1.2.1 ≤ N + 1
    omega
  · show r.2.2.2.2.2.2.1 ≤ N + 1
    omega
theorem pBd_up {M : mcS} {N N1 : Nat} (h : pBd M N) (hN : N ≤ N1) : pBd M N1 := ⟨h.1, by have := h.2.1; omega, h.2.2.1, by have := h.2.2.2.1; omega, by have := h.2.2.2.2; omega⟩
theorem pBd_0 : pBd mc0 0 := ⟨pInv_0, Nat.le_refl _, by show 0 ≤ 8; omega, Nat.le_refl _, Nat.le_refl _⟩
theorem pBd_L {M : mcS} {N n : Nat} {s : Nat → Nat} (h : pBd M N) : pBd (setL M n s) N := h
