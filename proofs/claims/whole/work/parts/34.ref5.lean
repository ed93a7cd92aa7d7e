/-! the reference: its changes -/
def codN (v : Int32) : Nat := if v = -1 then 1 else if v = -2 then 2 else if v = -3 then 3 else if v = -4 then 4 else 0
theorem codN_n {n : Nat} (h : n < 2 ^ 31) : codN (nI n) = 0 := by
  have h0 : ∀ q : Int32, q < 0 → nI n ≠ q := fun q hq e => nI_pos h (e ▸ hq)
  unfold codN
  rw [if_neg (h0 _ (by decide)), if_neg (h0 _ (by decide)), if_neg (h0 _ (by decide)), if_neg (h0 _ (by decide))]
theorem codN_4 (v : Int32) : codN v ≤ 4 := by
  unfold codN
  repeat' split
  all_goals omega
theorem updN_at {s : Nat → Nat} {k x j : Nat} (h : j = k) : updN s k x j = x := if_pos h
/-- zeros laid over a stretch; a stretch shifted by a message -/
def zer (g : Nat → Nat) (lo i : Nat) : Nat → Nat := fun q => if lo ≤ q ∧ q < lo + i then 0 else g q
theorem zer_0 (g : Nat → Nat) (lo : Nat) : zer g lo 0 = g := funext (fun q => if_neg (by omega))
theorem zer_s (g : Nat → Nat) (lo i : Nat) : updN (zer g lo i) (lo + i) 0 = zer g lo (i + 1) := by
  funext q
  unfold updN zer
  by_cases e : q = lo + i
  · rw [if_pos e, if_pos (by omega)]
  · rw [if_neg e]
    by_cases c : lo ≤ q ∧ q < lo + i
    · rw [if_pos c, if_pos (by omega)]
    · rw [if_neg c, if_neg (by omega)]
theorem zer_o {g : Nat → Nat} {lo i q : Nat} (h : q < lo ∨ lo + i ≤ q) : zer g lo i q = g q := if_neg (by omega)
def shf (g : Nat → Nat) (lo i : Nat) : Nat → Nat := fun q => if lo ≤ q ∧ q < lo + i then g (q + 19) else g q
theorem shf_0 (g : Nat → Nat) (lo : Nat) : shf g lo 0 = g := funext (fun q => if_neg (by omega))
theorem shf_s (g : Nat → Nat) (lo i : Nat) : updN (shf g lo i) (lo + i) (shf g lo i (lo + i + 19)) = shf g lo (i + 1) := by
  have h1 : shf g lo i (lo + i + 19) = g (lo + i + 19) := if_neg (by omega)
  rw [h1]
  funext q
  unfold updN shf
  by_cases e : q = lo + i
  · rw [if_pos e, if_pos (by omega), e]
  · rw [if_neg e]
    by_cases c : lo ≤ q ∧ q < lo + i
    · rw [if_pos c, if_pos (by omega)]
    · rw [if_neg c, if_neg (by omega)]
theorem shf_i {g : Nat → Nat} {lo i q : Nat} (h : lo ≤ q ∧ q < lo + i) : shf g lo i q = g (q + 19) := if_pos h
theorem shf_o {g : Nat → Nat} {lo i q : Nat} (h : q < lo ∨ lo + i ≤ q) : shf g lo i q = g q := if_neg (by omega)
def clG (g : Nat → Nat) : Nat → Nat := zer (updN g 0 0) 18 16
theorem clG_o {g : Nat → Nat} {q : Nat} (h : q ≠ 0 ∧ (q < 18 ∨ 34 ≤ q)) : clG g q = g q := (zer_o (by omega)).trans (updN_ne h.1)
theorem clG_0 (g : Nat → Nat) : clG g 0 = 0 := (zer_o (by omega)).trans updN_eq
def cfG (g : Nat → Nat) : Nat → Nat := zer (zer (updN (updN g 7 0) 8 0) 186 32) 234 196
theorem cfG_o {g : Nat → Nat} {q : Nat} (h : q ≠ 7 ∧ q ≠ 8 ∧ (q < 186 ∨ 218 ≤ q) ∧ (q < 234 ∨ 430 ≤ q)) : cfG g q = g q := (zer_o (by omega)).trans ((zer_o (by omega)).trans ((updN_ne h.2.1).trans (updN_ne h.1)))
theorem cfG_7 (g : Nat → Nat) : cfG g 7 = 0 := (zer_o (by omega)).trans ((zer_o (by omega)).trans ((updN_ne (by omega)).trans updN_eq))
def leG (g : Nat → Nat) (k p : Nat) : Nat → Nat := updN (zer (shf g (34 + 19 * p) (19 * (k - 1 - p))) (34 + 19 * (k - 1)) 19) 1 (k - 1)
theorem leG_1 (g : Nat → Nat) (k p : Nat) : leG g k p 1 = k - 1 := updN_eq
theorem leG_o {g : Nat → Nat} {k p q : Nat} (hk : p < k) (h : q ≠ 1 ∧ (q < 34 + 19 * p ∨ 34 + 19 * k ≤ q)) : leG g k p q = g q := (updN_ne h.1).trans ((zer_o (by omega)).trans (shf_o (by omega)))
theorem leG_s {g : Nat → Nat} {k p i q : Nat} (hq : q < 19) (hi : i + 1 < k) (h : p ≤ i) : leG g k p (34 + 19 * i + q) = g (34 + 19 * (i + 1) + q) := (updN_ne (by omega)).trans ((zer_o (by omega)).trans ((shf_i (by omega)).trans (congrArg g (by omega))))
theorem le_msg {g : Nat → Nat} {A : aS} (hA : aInv A) (hr : rRow g A) {p : Nat} (hp : p < A.2.2.1.1) {i : Nat} (hi : i < A.2.2.1.1 - 1) : rMsg (fun q => leG g A.2.2.1.1 p (34 + 19 * i + q)) (A.2.2.1.2.2 (shI p A.2.2.1.1 i)) := by
  have um := hA.2.2.2.1
  have qm := hr.2.2.2.1
  unfold shI
  by_cases c : i < p
  · rw [if_pos c]
    exact rMsg_ext (um i (by omega)).2.2.1 (fun q hq => leG_o hp (by omega)) (qm i (by omega))
  · rw [if_neg c, if_pos (by omega)]
    exact rMsg_ext (um (i + 1) (by omega)).2.2.1 (fun q hq => leG_s hq (by omega) (by omega)) (qm (i + 1) (by omega))
theorem ham_7 : ∀ a, a < 2 → ∀ b, b < 2 → ∀ c, c < 2 → ∀ d, d < 2 → ∀ u, u < 7 → [a ^^^ b ^^^ d, a ^^^ c ^^^ d, a, b ^^^ c ^^^ d, b, c, d].getD u 0 = bitP (blkN (((a * 2 + b) * 2 + c) * 2 + d)) (u + 1) := by decide +kernel
theorem zb_if {n : Nat} {f : Nat → Nat} {q : Nat} : (if q < n then f q else 0) = zbt n f 0 q := by
  unfold zbt
  by_cases c : q < n
  · rw [if_pos c, if_pos ⟨Nat.zero_le _, c⟩, Nat.sub_zero]
  · rw [if_neg c, if_neg (fun h => c h.2)]
theorem flp_bit : ∀ x, x < 128 → ∀ p, p < 7 → ∀ u, u < 7 → bitP (x ^^^ 2 ^ (7 - (p + 1))) (u + 1) = if u = p then bitP x (u + 1) ^^^ 1 else bitP x (u + 1) := by decide +kernel
theorem fl_iff {i : Int32} {n : Nat} (hn : n < 2 ^ 31) : (nI 0 ≤ i ∧ i ≤ nI n - nI 1) ↔ (0 ≤ i ∧ i < nI n) := by
  by_cases h0 : n = 0
  · rw [h0]
    constructor
    · intro h
      exact absurd (Int32.le_trans h.1 h.2) (by decide)
    · intro h
      exact absurd h.2 (by rw [Int32.not_lt]; exact h.1)
  · rw [pk_sub (by omega)]
    constructor
    · intro h
      have h1 : (0 : Int32) ≤ i := h.1
      refine ⟨h1, ?_⟩
      have h2 := i2n_le h1 h.2 (by omega)
      rw [i2n_of h1]
      exact (nI_ltI i2n_31 hn).mpr (by omega)
    · intro h
      refine ⟨h.1, ?_⟩
      have h2 := i2n_lt h.1 h.2 hn
      rw [i2n_of h.1]
      exact (nI_leI i2n_31 (by omega)).mpr (by omega)
/-! what every change keeps -/
theorem inv_W {A : aS} {w : Nat → Nat} (hA : aInv A) (h : ∀ j, j < 8 → 1 ≤ w j ∧ w j ≤ 99) : aInv (w, A.2) := ⟨hA.1, h, hA.2.2⟩
theorem inv_D {A : aS} {n : Nat} {s : Nat → Nat} (hA : aInv A) (hn : n ≤ 16) (h : ∀ j, j < n → isSy (s j)) : aInv (A.1, (n, s), A.2.2) := ⟨⟨hn, hA.1.2⟩, hA.2.1, h, hA.2.2.2⟩
theorem inv_Wt {A : aS} (hA : aInv A) (c : Nat) (x : Int32) : aInv (aWt A c x).2 := by
  unfold aWt
  split
  · rename_i h
    obtain ⟨h0, h1⟩ := i2n_ge h.2.1 (by decide)
    have h2 := i2n_le h0 h.2.2 (by decide)
    exact inv_W hA (fun j hj => by
      by_cases e : j = c - 97
      · rw [e, updN_eq]; exact ⟨h1, h2⟩
      · rw [updN_ne e]; exact hA.2.1 j hj)
  · exact hA
theorem inv_Dr {A : aS} (hA : aInv A) (c : Nat) : aInv (aDr A c).2 := by
  unfold aDr
  split
  · rename_i h
    split
    · rename_i h2
      exact inv_D hA (by omega) (fun j hj => by
        by_cases e : j = A.2.1.1
        · rw [e, updN_eq]; exact h
        · rw [updN_ne e]; exact hA.2.2.1 j (by omega))
    · exact hA
  · exact hA
theorem inv_Cl {A : aS} (hA : aInv A) : aInv (aCl A).2 := inv_D hA (Nat.zero_le _) (fun j hj => absurd hj (Nat.not_lt_zero j))
theorem inv_Po {A : aS} (hA : aInv A) (p : Int32) (hn : A.2.2.1.2.1 + 1 < 1000) : aInv (aPo A p).2 := by
  obtain ⟨⟨u1, u2, u3, u4, u5⟩, uw, ud, um, uo, ut, ux, ub, un9⟩ := hA
  unfold aPo
  split
  · rename_i h
    split
    · exact ⟨⟨u1, u2, u3, u4, u5⟩, uw, ud, um, uo, ut, ux, ub, un9⟩
    · rename_i h2
      have h1 : nI 1 ≤ p := h.1
      have h5 : p ≤ nI 5 := h.2
      obtain ⟨h0, h1⟩ := i2n_ge h1 (by decide)
      have h5 := i2n_le h0 h5 (by decide)
      refine ⟨⟨Nat.zero_le _, by show _ + 1 ≤ 8; omega, u3, u4, u5⟩, uw, fun j hj => absurd hj (Nat.not_lt_zero j), fun i hi => ?_, fun i j hij hj => ?_, ut, ux, ub, hn⟩
      · change i < A.2.2.1.1 + 1 at hi
        by_cases e : i = A.2.2.1.1
        · rw [e]
          dsimp only
          rw [updA_eq]
          exact ⟨by show A.2.2.1.2.1 < A.2.2.1.2.1 + 1; omega, ⟨h1, h5⟩, u1, ud⟩
        · dsimp only
          rw [updA_ne e]
          have := um i (by omega)
          exact ⟨by show _ < A.2.2.1.2.1 + 1; omega, this.2⟩
      · change j < A.2.2.1.1 + 1 at hj
        dsimp only
        by_cases e : j = A.2.2.1.1
        · rw [e, updA_eq, updA_ne (by omega)]
          exact (um i (by omega)).1
        · rw [updA_ne e, updA_ne (by omega)]
          exact uo i j hij (by omega)
  · exact ⟨⟨u1, u2, u3, u4, u5⟩, uw, ud, um, uo, ut, ux, ub, un9⟩
theorem inv_Rm {A : aS} (hA : aInv A) {r : Nat} (hr : r < A.2.2.1.1) : aInv (aRm A r) := by
  obtain ⟨⟨u1, u2, u3, u4, u5⟩, uw, ud, um, uo, ut, ux, ub, un9⟩ := hA
  refine ⟨⟨u1, by show _ - 1 ≤ 8; omega, u3, u4, u5⟩, uw, ud, fun i hi => ?_, fun i j hij hj => ?_, ut, ux, ub, un9⟩
  · change i < A.2.2.1.1 - 1 at hi
    exact um _ (shI_k hr (by omega))
  · change j < A.2.2.1.1 - 1 at hj
    refine uo _ _ ?_ (shI_k hr (by omega))
    unfold shI
    rw [if_pos (show i + 1 < A.2.2.1.1 by omega), if_pos (show j + 1 < A.2.2.1.1 by omega)]
    split <;> split <;> omega
theorem inv_Di {A : aS} (hA : aInv A) (v : Int32) : aInv (aDi A v).2 := by
  unfold aDi
  split
  · rename_i h
    exact inv_Rm hA h
  · exact hA
theorem pr_id {A : aS} (r p i : Nat) : (updA A.2.2.1.2.2 r (prS (A.2.2.1.2.2 r) p) i).1 = (A.2.2.1.2.2 i).1 := by
  by_cases e : i = r
  · rw [e, updA_eq]; rfl
  · rw [updA_ne e]
theorem inv_P {A : aS} (hA : aInv A) (r p : Nat) (h1 : 1 ≤ p ∧ p ≤ 5) : aInv (A.1, A.2.1, (A.2.2.1.1, A.2.2.1.2.1, updA A.2.2.1.2.2 r (prS (A.2.2.1.2.2 r) p)), A.2.2.2) := by
  obtain ⟨⟨u1, u2, u3, u4, u5⟩, uw, ud, um, uo, ut, ux, ub, un9⟩ := hA
  refine ⟨⟨u1, u2, u3, u4, u5⟩, uw, ud, fun i hi => ?_, fun i j hij hj => ?_, ut, ux, ub, un9⟩
  · dsimp only
    rw [pr_id]
    refine ⟨(um i hi).1, ?_⟩
    by_cases e : i = r
    · rw [e, updA_eq]
      exact ⟨h1, (um r (e ▸ hi)).2.2⟩
    · rw [updA_ne e]
      exact (um i hi).2
  · dsimp only
    rw [pr_id, pr_id]
    exact uo i j hij hj
theorem inv_Hu {A : aS} (hA : aInv A) (v p : Int32) : aInv (aHu A v p).2 := by
  unfold aHu
  split
  · split
    · rename_i h
      have h1 : nI 1 ≤ p := h.1
      have h5 : p ≤ nI 5 := h.2
      obtain ⟨h0, h1⟩ := i2n_ge h1 (by decide)
      have h5 := i2n_le h0 h5 (by decide)
      exact inv_P hA _ _ ⟨h1, h5⟩
    · exact hA
  · exact hA
/-- weights under learning, the first i of them -/
def lrnP (w : Nat → Nat) (e : mS) (i j : Nat) : Nat := if j < i then lrnW w e j else w j
theorem lrnW_b {w : Nat → Nat} {e : mS} {j : Nat} (h : 1 ≤ w j ∧ w j ≤ 99) : 1 ≤ lrnW w e j ∧ lrnW w e j ≤ 99 := by
  unfold lrnW
  split <;> omega
theorem lrnP_b {w : Nat → Nat} {e : mS} {i j : Nat} (h : 1 ≤ w j ∧ w j ≤ 99) : 1 ≤ lrnP w e i j ∧ lrnP w e i j ≤ 99 := by
  unfold lrnP
  split
  · exact lrnW_b h
  · exact h
theorem inv_Le {A : aS} (hA : aInv A) (v : Int32) : aInv (aLe A v).2 := by
  unfold aLe
  split
  · exact inv_W hA (fun j hj => lrnW_b (hA.2.1 j hj))
  · exact hA
theorem nblk_le {w : Nat → Nat} {e : mS} (h : e.2.2.1 ≤ 16) : nblk w e ≤ 28 := by
  have h1 := bitsN_le (ln := hLen w) (fun j hj => hLen_7 w hj) e.2.2.2 e.2.2.1
  unfold nblk
  omega
theorem blks_lt (w : Nat → Nat) (e : mS) (j : Nat) : blks w e j < 128 := by
  have h := fourB_le (n := bitsN (hLen w) e.2.2.2 e.2.2.1) (f := splB (hLen w) (hVal (hLen w)) e.2.2.2 e.2.2.1) (fun j _ => splB_le _ _ _ _ j) 0 (4 * j)
  exact blk_lt _ (by omega)
theorem inv_Fr {A : aS} (hA : aInv A) {r : Nat} (hr : r < A.2.2.1.1) : aInv (aFr A (A.2.2.1.2.2 r)) := by
  obtain ⟨⟨u1, u2, u3, u4, u5⟩, uw, ud, um, uo, ut, ux, ub, un9⟩ := hA
  have h := (um r hr).2.2
  exact ⟨⟨u1, u2, nblk_le h.1, h.1, u5⟩, uw, ud, um, uo, h.2, ux, fun b _ => blks_lt _ _ b, un9⟩
theorem inv_Se {A : aS} (hA : aInv A) : aInv (aSe A).2 := by
  unfold aSe
  split
  · rename_i h
    exact inv_Rm (inv_Fr hA h) h
  · exact hA
theorem flpB_lt {b : Nat → Nat} {k : Nat} (q : Nat) (h : ∀ j, j < k → b j < 128) : ∀ j, j < k → flpB b q j < 128 := by
  intro j hj
  unfold flpB
  by_cases e : j = q / 7
  · rw [← e, updN_eq]
    exact Nat.xor_lt_two_pow (n := 7) (h j hj) (by
      have : 2 ^ (7 - (q % 7 + 1)) ≤ 2 ^ 6 := Nat.pow_le_pow_right (by omega) (by omega)
      omega)
  · rw [updN_ne e]
    exact h j hj
theorem inv_F {A : aS} (hA : aInv A) (q : Nat) : aInv (A.1, A.2.1, A.2.2.1, (A.2.2.2.1.1, flpB A.2.2.2.1.2.1 q, A.2.2.2.1.2.2), A.2.2.2.2) := by
  obtain ⟨⟨u1, u2, u3, u4, u5⟩, uw, ud, um, uo, ut, ux, ub, un9⟩ := hA
  exact ⟨⟨u1, u2, u3, u4, u5⟩, uw, ud, um, uo, ut, ux, flpB_lt q ub, un9⟩
theorem inv_Fl {A : aS} (hA : aInv A) (i : Int32) : aInv (aFl A i).2 := by
  unfold aFl
  split
  · exact inv_F hA _
  · exact hA
theorem inv_Re {A : aS} (hA : aInv A) : aInv (aRe A).2 := by
  obtain ⟨⟨u1, u2, u3, u4, u5⟩, uw, ud, um, uo, ut, ux, ub, un9⟩ := hA
  unfold aRe
  split
  · exact ⟨⟨u1, u2, Nat.zero_le _, u4, Nat.le_trans (decS_le _ _ _ _ _) u4⟩, uw, ud, um, uo, ut, fun j hj => decS_sy _ _ _ _ _ j hj, fun b hb => absurd hb (Nat.not_lt_zero b), un9⟩
  · exact ⟨⟨u1, u2, u3, u4, u5⟩, uw, ud, um, uo, ut, ux, ub, un9⟩
theorem inv_S0 : aInv aS0 := ⟨⟨Nat.zero_le _, Nat.zero_le _, Nat.zero_le _, Nat.zero_le _, Nat.zero_le _⟩, fun _ _ => ⟨Nat.le_refl 1, by show 1 ≤ 99; omega⟩, fun j hj => absurd hj (Nat.not_lt_zero j), fun j hj => absurd hj (Nat.not_lt_zero j), fun i j _ hj => absurd hj (Nat.not_lt_zero j), fun j hj => absurd hj (Nat.not_lt_zero j), fun j hj => absurd hj (Nat.not_lt_zero j), fun j hj => absurd hj (Nat.not_lt_zero j), by show 0 < 1000; omega⟩

theorem d_MessageCoderModel_total_0 : decode prog_14_method_42_code 0 = .ok (.iconst 0, 1) := by decide +kernel
theorem d_MessageCoderModel_total_1 : decode prog_14_method_42_code 1 = .ok (.istore_n 1, 1) := by decide +kernel
theorem d_MessageCoderModel_total_2 : decode prog_14_method_42_code 2 = .ok (.iconst 0, 1) := by decide +kernel
theorem d_MessageCoderModel_total_3 : decode prog_14_method_42_code 3 = .ok (.istore_n 2, 1) := by decide +kernel
theorem d_MessageCoderModel_total_4 : decode prog_14_method_42_code 4 = .ok (.iload_n 2, 1) := by decide +kernel
theorem d_MessageCoderModel_total_5 : decode prog_14_method_42_code 5 = .ok (.bipush 8, 2) := by decide +kernel
theorem d_MessageCoderModel_total_7 : decode prog_14_method_42_code 7 = .ok (.if_icmp .ge 21, 3) := by decide +kernel
theorem d_MessageCoderModel_total_10 : decode prog_14_method_42_code 10 = .ok (.iload_n 1, 1) := by decide +kernel
theorem d_MessageCoderModel_total_11 : decode prog_14_method_42_code 11 = .ok (.aload_n 0, 1) := by decide +kernel
theorem d_MessageCoderModel_total_12 : decode prog_14_method_42_code 12 = .ok (.getfield 9, 3) := by decide +kernel
theorem d_MessageCoderModel_total_15 : decode prog_14_method_42_code 15 = .ok (.bipush 10, 2) := by decide +kernel
theorem d_MessageCoderModel_total_17 : decode prog_14_method_42_code 17 = .ok (.iload_n 2, 1) := by decide +kernel
theorem d_MessageCoderModel_total_18 : decode prog_14_method_42_code 18 = .ok (.iadd, 1) := by decide +kernel
theorem d_MessageCoderModel_total_19 : decode prog_14_method_42_code 19 = .ok (.iaload, 1) := by decide +kernel
theorem d_MessageCoderModel_total_20 : decode prog_14_method_42_code 20 = .ok (.iadd, 1) := by decide +kernel
theorem d_MessageCoderModel_total_21 : decode prog_14_method_42_code 21 = .ok (.istore_n 1, 1) := by decide +kernel
theorem d_MessageCoderModel_total_22 : decode prog_14_method_42_code 22 = .ok (.iinc 2 1, 3) := by decide +kernel
theorem d_MessageCoderModel_total_25 : decode prog_14_method_42_code 25 = .ok (.goto (-21), 3) := by decide +kernel
theorem d_MessageCoderModel_total_28 : decode prog_14_method_42_code 28 = .ok (.iload_n 1, 1) := by decide +kernel
theorem d_MessageCoderModel_total_29 : decode prog_14_method_42_code 29 = .ok (.ireturn, 1) := by decide +kernel
set_option maxHeartbeats 4000000 in
set_option maxRecDepth 20000 in
theorem c_MessageCoderModel_total {P : xP} {F : xF} {z : Nat} {m : Nat} {th : Nat} {ch : Nat} {sv : Nat} {rs : Int32} {bm : Nat} {dm : Nat} {lz : Nat} {ty : Nat} {he : Nat} {er : Int32} {ea : Int32} {fa : Int32} {cn : Nat} {g : Nat → Nat} {w : Nat → Nat} (o0 : F (m) = some (.inl (10, [.int (nI (th)), .ref (m + 1), .int (nI (ch)), .int (nI (sv)), .int rs, .ref (m + 2), .ref (m + 3), .ref (m + 4), .ref (m + 5), .ref (m + 6), .int (nI (bm)), .ref (m + 7), .int (nI (dm)), .ref (m + 8), .ref (m + 9), .int (nI (lz)), .ref (m + 10), .int (nI (ty)), .int (nI (he)), .int er, .int ea, .int fa, .ref (m + 11), .int (nI (cn))]))) (ga : F (m + 1) = some (.inr (0, 4730, fun b9 => .int (nI (g b9))))) (hw : ∀ j, j < 8 → g (10 + j) = w j) (hw9 : ∀ j, j < 8 → w j ≤ 99) : xM P xy_MessageCoderModel_total [.ref m] F (z) 0 0 (fun r9 F9 z9 => r9 = some (.int (nI (sumN w 8))) ∧ F9 = F ∧ z9 = z) := by
  refine xM_i .int rfl (Nat.le_of_ble_eq_true rfl) (L0 := [some (.ref m), none, none]) rfl rfl fun Θ hC hret => ?_
  refine x_iconst hC d_MessageCoderModel_total_0 (v := nI 0) (by decide) ?_
  refine x_istore_n hC d_MessageCoderModel_total_1 rfl (Nat.le_of_ble_eq_true rfl) (L1 := [some (.ref m), some (.int (nI 0)), none]) rfl ?_
  refine x_iconst hC d_MessageCoderModel_total_2 (v := nI 0) (by decide) ?_
  refine x_istore_n hC d_MessageCoderModel_total_3 rfl (Nat.le_of_ble_eq_true rfl) (L1 := [some (.ref m), some (.int (nI 0)), some (.int (nI 0))]) rfl ?_
  have loop_4 : ∀ (m9 : Nat) (i : Nat) (t : Nat), (F (m) = some (.inl (10, [.int (nI (th)), .ref (m + 1), .int (nI (ch)), .int (nI (sv)), .int rs, .ref (m + 2), .ref (m + 3), .ref (m + 4), .ref (m + 5), .ref (m + 6), .int (nI (bm)), .ref (m + 7), .int (nI (dm)), .ref (m + 8), .ref (m + 9), .int (nI (lz)), .ref (m + 10), .int (nI (ty)), .int (nI (he)), .int er, .int ea, .int fa, .ref (m + 11), .int (nI (cn))]))) → (F (m + 1) = some (.inr (0, 4730, fun b9 => .int (nI (g b9))))) → (i ≤ 8) → (t = sumN w i) → (t ≤ 99 * i) → (8 - i < m9) → xX P Θ 4 [some (.ref m), some (.int (nI (t))), some (.int (nI (i)))] [] F (z) 0 0 := by
    intro m9
    induction m9 with
    | zero => intros; omega
    | succ m9 ih_4 =>
      intro  i t o0 ga hi kt kb hm_4
      refine x_iload_n hC d_MessageCoderModel_total_4 rfl rfl ?_
      refine x_bipush hC d_MessageCoderModel_total_5 (v := nI 8) (by decide) ?_
      refine x_icmpN_ge hC d_MessageCoderModel_total_7 (tgt := 28) (by decide) (by omega) (by omega) (fun c_7 => ?_) (fun c_7 => ?_)
      · skip
        obtain rfl : i = 8 := by omega
        refine x_iload_n hC d_MessageCoderModel_total_28 rfl rfl ?_
        exact hret _ _ _ _ _ _ _ d_MessageCoderModel_total_29 (by decide) (by decide) rfl (⟨congrArg (fun q => some (Value.int (nI q))) (kt), rfl, rfl⟩)
      · skip
        have hwi := hw9 i (by omega)
        refine x_iload_n hC d_MessageCoderModel_total_10 rfl rfl ?_
        refine x_aload_n hC d_MessageCoderModel_total_11 rfl rfl ?_
        refine x_getf hC kf_MessageCoderModel_9 o0 rfl d_MessageCoderModel_total_12 ?_
        refine x_bipush hC d_MessageCoderModel_total_15 (v := nI 10) (by decide) ?_
        refine x_iload_n hC d_MessageCoderModel_total_17 rfl rfl ?_
        refine x_iadd hC d_MessageCoderModel_total_18 (v := (nI (10 + i))) (x_addN (by omega)) ?_
        refine x_iald hC ga (j := 10 + i) ⟨rfl, by omega, by omega⟩ (x := nI (w i)) (congrArg nI (hw i (by omega))) d_MessageCoderModel_total_19 ?_
        refine x_iadd hC d_MessageCoderModel_total_20 (v := (nI ((t) + (w i)))) (x_addN (by omega)) ?_
        refine x_istore_n hC d_MessageCoderModel_total_21 rfl (Nat.le_of_ble_eq_true rfl) (L1 := [some (.ref m), some (.int (nI ((t) + (w i)))), some (.int (nI (i)))]) rfl ?_
        refine x_iinc hC d_MessageCoderModel_total_22 rfl (v := (nI (i + 1))) (x_incN 1) (Nat.le_of_ble_eq_true rfl) (L1 := [some (.ref m), some (.int (nI ((t) + (w i)))), some (.int (nI (i + 1)))]) rfl ?_
        refine x_goto hC d_MessageCoderModel_total_25 (tgt := 4) (by decide) ?_
        exact ih_4  (i + 1) (t + w i) o0 ga (by omega) (by rw [kt]; rfl) (by omega) (by omega)
  exact loop_4 (8 - 0 + 1)  (0) (0) o0 ga (by omega) (rfl) (by omega) (by omega)

theorem d_MessageCoderModel_weighs_0 : decode prog_14_method_29_code 0 = .ok (.iload_n 1, 1) := by decide +kernel
theorem d_MessageCoderModel_weighs_1 : decode prog_14_method_29_code 1 = .ok (.invokestatic 118, 3) := by decide +kernel
theorem d_MessageCoderModel_weighs_4 : decode prog_14_method_29_code 4 = .ok (.ifCond .eq 13, 3) := by decide +kernel
theorem d_MessageCoderModel_weighs_7 : decode prog_14_method_29_code 7 = .ok (.iload_n 2, 1) := by decide +kernel
theorem d_MessageCoderModel_weighs_8 : decode prog_14_method_29_code 8 = .ok (.iconst 1, 1) := by decide +kernel
theorem d_MessageCoderModel_weighs_9 : decode prog_14_method_29_code 9 = .ok (.bipush 99, 2) := by decide +kernel
theorem d_MessageCoderModel_weighs_11 : decode prog_14_method_29_code 11 = .ok (.invokestatic 64, 3) := by decide +kernel
theorem d_MessageCoderModel_weighs_14 : decode prog_14_method_29_code 14 = .ok (.ifCond .ne 5, 3) := by decide +kernel
theorem d_MessageCoderModel_weighs_17 : decode prog_14_method_29_code 17 = .ok (.iconst 1, 1) := by decide +kernel
theorem d_MessageCoderModel_weighs_18 : decode prog_14_method_29_code 18 = .ok (.ireturn, 1) := by decide +kernel
theorem d_MessageCoderModel_weighs_19 : decode prog_14_method_29_code 19 = .ok (.aload_n 0, 1) := by decide +kernel
theorem d_MessageCoderModel_weighs_20 : decode prog_14_method_29_code 20 = .ok (.aload_n 0, 1) := by decide +kernel
theorem d_MessageCoderModel_weighs_21 : decode prog_14_method_29_code 21 = .ok (.getfield 9, 3) := by decide +kernel
theorem d_MessageCoderModel_weighs_24 : decode prog_14_method_29_code 24 = .ok (.bipush 10, 2) := by decide +kernel
theorem d_MessageCoderModel_weighs_26 : decode prog_14_method_29_code 26 = .ok (.iload_n 1, 1) := by decide +kernel
theorem d_MessageCoderModel_weighs_27 : decode prog_14_method_29_code 27 = .ok (.iadd, 1) := by decide +kernel
theorem d_MessageCoderModel_weighs_28 : decode prog_14_method_29_code 28 = .ok (.bipush 97, 2) := by decide +kernel
theorem d_MessageCoderModel_weighs_30 : decode prog_14_method_29_code 30 = .ok (.isub, 1) := by decide +kernel
theorem d_MessageCoderModel_weighs_31 : decode prog_14_method_29_code 31 = .ok (.iaload, 1) := by decide +kernel
theorem d_MessageCoderModel_weighs_32 : decode prog_14_method_29_code 32 = .ok (.putfield 61, 3) := by decide +kernel
theorem d_MessageCoderModel_weighs_35 : decode prog_14_method_29_code 35 = .ok (.aload_n 0, 1) := by decide +kernel
theorem d_MessageCoderModel_weighs_36 : decode prog_14_method_29_code 36 = .ok (.getfield 9, 3) := by decide +kernel
theorem d_MessageCoderModel_weighs_39 : decode prog_14_method_29_code 39 = .ok (.bipush 10, 2) := by decide +kernel
theorem d_MessageCoderModel_weighs_41 : decode prog_14_method_29_code 41 = .ok (.iload_n 1, 1) := by decide +kernel
theorem d_MessageCoderModel_weighs_42 : decode prog_14_method_29_code 42 = .ok (.iadd, 1) := by decide +kernel
theorem d_MessageCoderModel_weighs_43 : decode prog_14_method_29_code 43 = .ok (.bipush 97, 2) := by decide +kernel
theorem d_MessageCoderModel_weighs_45 : decode prog_14_method_29_code 45 = .ok (.isub, 1) := by decide +kernel
theorem d_MessageCoderModel_weighs_46 : decode prog_14_method_29_code 46 = .ok (.iload_n 2, 1) := by decide +kernel
theorem d_MessageCoderModel_weighs_47 : decode prog_14_method_29_code 47 = .ok (.iastore, 1) := by decide +kernel
theorem d_MessageCoderModel_weighs_48 : decode prog_14_method_29_code 48 = .ok (.iconst 0, 1) := by decide +kernel
theorem d_MessageCoderModel_weighs_49 : decode prog_14_method_29_code 49 = .ok (.ireturn, 1) := by decide +kernel
set_option maxHeartbeats 4000000 in
set_option maxRecDepth 20000 in
theorem c_MessageCoderModel_weighs {P : xP} {F : xF} {z : Nat} {m : Nat} {th : Nat} {ch : Nat} {sv : Nat} {rs : Int32} {bm : Nat} {dm : Nat} {lz : Nat} {ty : Nat} {he : Nat} {er : Int32} {ea : Int32} {fa : Int32} {cn : Nat} {g : Nat → Nat} {A : aS} {c : Nat} {x : Int32} (o0 : F (m) = some (.inl (10, [.int (nI (th)), .ref (m + 1), .int (nI (ch)), .int (nI (sv)), .int rs, .ref (m + 2), .ref (m + 3), .ref (m + 4), .ref (m + 5), .ref (m + 6), .int (nI (bm)), .ref (m + 7), .int (nI (dm)), .ref (m + 8), .ref (m + 9), .int (nI (lz)), .ref (m + 10), .int (nI (ty)), .int (nI (he)), .int er, .int ea, .int fa, .ref (m + 11), .int (nI (cn))]))) (ga : F (m + 1) = some (.inr (0, 4730, fun b9 => .int (nI (g b9))))) (hr : rRow g A) (hA : aInv A) (hc : c < 65536) : xM P xy_MessageCoderModel_weighs [.ref m, .int (nI (c)), .int x] F (z) 0 0 (fun r9 F9 z9 => ∃ g1 : Nat → Nat, ∃ rs1 : Int32, r9 = some (.int (nI (codN (aWt A c x).1))) ∧ z9 = z ∧ F9 (m) = some (.inl (10, [.int (nI (th)), .ref (m + 1), .int (nI (ch)), .int (nI (sv)), .int rs1, .ref (m + 2), .ref (m + 3), .ref (m + 4), .ref (m + 5), .ref (m + 6), .int (nI (bm)), .ref (m + 7), .int (nI (dm)), .ref (m + 8), .ref (m + 9), .int (nI (lz)), .ref (m + 10), .int (nI (ty)), .int (nI (he)), .int er, .int ea, .int fa, .ref (m + 11), .int (nI (cn))])) ∧ F9 (m + 1) = some (.inr (0, 4730, fun b9 => .int (nI (g1 b9)))) ∧ (rRow g1 (aWt A c x).2) ∧ (∀ q, 430 ≤ q → g1 q = g q) ∧ (codN (aWt A c x).1 = 0 → rs1 = (aWt A c x).1) ∧ (∀ a9 : Nat, (a9 < m ∨ m + 2 ≤ a9) → F9 a9 = F a9)) := by
  refine xM_i .int rfl (Nat.le_of_ble_eq_true rfl) (L0 := [some (.ref m), some (.int (nI (c))), some (.int x)]) rfl rfl fun Θ hC hret => ?_
  have hag : ∀ a9 : Nat, (a9 < m ∨ m + 2 ≤ a9) → F a9 = F a9 := fun a9 _ => rfl
  obtain ⟨⟨q0, q1, q2, q3, q4, q5, q6, q7, q9⟩, qw, qd, qm, qf, qx, qb⟩ := id hr
  obtain ⟨⟨u1, u2, u3, u4, u5⟩, uw, ud, um, uo, ut, ux, ub, un9⟩ := id hA
  refine x_iload_n hC d_MessageCoderModel_weighs_0 rfl rfl ?_
  refine x_callS hC ks_MessageCoderModel_118 (c_MessageCoderModel_isSymbolN (hcb := by omega)) (by decide) rfl rfl rfl (Nat.le_of_ble_eq_true rfl) (by decide) d_MessageCoderModel_weighs_1 (fun r9 F9 z9 hp9 => ?_)
  obtain ⟨rfl, h9b, h9c⟩ := hp9
  rw [h9b, h9c]
  clear h9b h9c F9 z9
  refine x_ifB_eq hC d_MessageCoderModel_weighs_4 (tgt := 17) (by decide) (fun c_4 => ?_) (fun c_4 => ?_)
  · skip
    refine x_iconst hC d_MessageCoderModel_weighs_17 (v := nI 1) (by decide) ?_
    refine hret _ _ _ _ _ _ _ d_MessageCoderModel_weighs_18 (by decide) (by decide) rfl ?_
    have e9 : aWt A c x = (-1, A) := if_neg (fun h9 => c_4 h9.1)
    exact ⟨g, rs, by rw [e9]; rfl, rfl, o0, ga, by rw [e9]; exact hr, fun _ _ => rfl, fun h9 => absurd h9 (by rw [e9]; show ¬ codN (-1) = 0; decide), hag⟩
  · skip
    refine x_iload_n hC d_MessageCoderModel_weighs_7 rfl rfl ?_
    refine x_iconst hC d_MessageCoderModel_weighs_8 (v := nI 1) (by decide) ?_
    refine x_bipush hC d_MessageCoderModel_weighs_9 (v := nI 99) (by decide) ?_
    refine x_callS hC ks_MessageCoderModel_64 (c_MessageCoderModel_in ) (by decide) rfl rfl rfl (Nat.le_of_ble_eq_true rfl) (by decide) d_MessageCoderModel_weighs_11 (fun r9 F9 z9 hp9 => ?_)
    obtain ⟨rfl, h9b, h9c⟩ := hp9
    rw [h9b, h9c]
    clear h9b h9c F9 z9
    refine x_ifB_ne hC d_MessageCoderModel_weighs_14 (tgt := 19) (by decide) (fun c_14 => ?_) (fun c_14 => ?_)
    · skip
      obtain ⟨hx0, hx1⟩ := i2n_ge c_14.1 (by decide)
      have hx9 : x.toNatClampNeg ≤ 99 := i2n_le hx0 c_14.2 (by decide)
      have hxe := i2n_of hx0
      have hw9 := uw (c - 97) (by omega)
      refine x_aload_n hC d_MessageCoderModel_weighs_19 rfl rfl ?_
      refine x_aload_n hC d_MessageCoderModel_weighs_20 rfl rfl ?_
      refine x_getf hC kf_MessageCoderModel_9 o0 rfl d_MessageCoderModel_weighs_21 ?_
      refine x_bipush hC d_MessageCoderModel_weighs_24 (v := nI 10) (by decide) ?_
      refine x_iload_n hC d_MessageCoderModel_weighs_26 rfl rfl ?_
      refine x_iadd hC d_MessageCoderModel_weighs_27 (v := (nI (10 + c))) (x_addN (by omega)) ?_
      refine x_bipush hC d_MessageCoderModel_weighs_28 (v := nI 97) (by decide) ?_
      refine x_isub hC d_MessageCoderModel_weighs_30 (v := (nI ((10 + c) - 97))) (pk_sub (by omega)) ?_
      refine x_iald hC ga (j := (10 + c) - 97) ⟨rfl, by omega, by omega⟩ (x := nI (A.1 (c - 97))) (congrArg nI (by rw [show 10 + c - 97 = 10 + (c - 97) by omega]; exact qw _ (by omega))) d_MessageCoderModel_weighs_31 ?_
      refine x_putf hC kf_MessageCoderModel_61 o0 (Nat.le_of_ble_eq_true rfl) rfl rfl d_MessageCoderModel_weighs_32 (fs1 := [.int (nI (th)), .ref (m + 1), .int (nI (ch)), .int (nI (sv)), .int (nI (A.1 (c - 97))), .ref (m + 2), .ref (m + 3), .ref (m + 4), .ref (m + 5), .ref (m + 6), .int (nI (bm)), .ref (m + 7), .int (nI (dm)), .ref (m + 8), .ref (m + 9), .int (nI (lz)), .ref (m + 10), .int (nI (ty)), .int (nI (he)), .int er, .int ea, .int fa, .ref (m + 11), .int (nI (cn))]) rfl ?_
      generalize e1 : xup F (m) (.inl (10, [.int (nI (th)), .ref (m + 1), .int (nI (ch)), .int (nI (sv)), .int (nI (A.1 (c - 97))), .ref (m + 2), .ref (m + 3), .ref (m + 4), .ref (m + 5), .ref (m + 6), .int (nI (bm)), .ref (m + 7), .int (nI (dm)), .ref (m + 8), .ref (m + 9), .int (nI (lz)), .ref (m + 10), .int (nI (ty)), .int (nI (he)), .int er, .int ea, .int fa, .ref (m + 11), .int (nI (cn))])) = F1
      have o0 : F1 (m) = some (.inl (10, [.int (nI (th)), .ref (m + 1), .int (nI (ch)), .int (nI (sv)), .int (nI (A.1 (c - 97))), .ref (m + 2), .ref (m + 3), .ref (m + 4), .ref (m + 5), .ref (m + 6), .int (nI (bm)), .ref (m + 7), .int (nI (dm)), .ref (m + 8), .ref (m + 9), .int (nI (lz)), .ref (m + 10), .int (nI (ty)), .int (nI (he)), .int er, .int ea, .int fa, .ref (m + 11), .int (nI (cn))])) := by rw [← e1]; exact xup_eq
      have ga : F1 (m + 1) = some (.inr (0, 4730, fun b9 => .int (nI (g b9)))) := by rw [← e1]; exact (xup_ne (by omega)).trans ga
      have hag : ∀ a9 : Nat, (a9 < m ∨ m + 2 ≤ a9) → F1 a9 = F a9 := fun a9 q0 => by rw [← e1]; exact (xup_ne (by omega)).trans (hag a9 q0)
      refine x_aload_n hC d_MessageCoderModel_weighs_35 rfl rfl ?_
      refine x_getf hC kf_MessageCoderModel_9 o0 rfl d_MessageCoderModel_weighs_36 ?_
      refine x_bipush hC d_MessageCoderModel_weighs_39 (v := nI 10) (by decide) ?_
      refine x_iload_n hC d_MessageCoderModel_weighs_41 rfl rfl ?_
      refine x_iadd hC d_MessageCoderModel_weighs_42 (v := (nI (10 + c))) (x_addN (by omega)) ?_
      refine x_bipush hC d_MessageCoderModel_weighs_43 (v := nI 97) (by decide) ?_
      refine x_isub hC d_MessageCoderModel_weighs_45 (v := (nI ((10 + c) - 97))) (pk_sub (by omega)) ?_
      refine x_iload_n hC d_MessageCoderModel_weighs_46 rfl rfl ?_
      refine x_top (v := (nI (x.toNatClampNeg))) hxe ?_
      refine x_iast hC ga (j := (10 + c) - 97) ⟨rfl, by omega, by omega⟩ d_MessageCoderModel_weighs_47 (g1 := fun b9 => nI (updN g ((10 + c) - 97) (x.toNatClampNeg) b9)) (x_updN _ _ _) ?_
      generalize eg1 : updN g ((10 + c) - 97) (x.toNatClampNeg) = g1
      generalize e3 : xup F1 (m + 1) (.inr (0, 4730, fun b9 => .int (nI (g1 b9)))) = F3
      have o0 : F3 (m) = some (.inl (10, [.int (nI (th)), .ref (m + 1), .int (nI (ch)), .int (nI (sv)), .int (nI (A.1 (c - 97))), .ref (m + 2), .ref (m + 3), .ref (m + 4), .ref (m + 5), .ref (m + 6), .int (nI (bm)), .ref (m + 7), .int (nI (dm)), .ref (m + 8), .ref (m + 9), .int (nI (lz)), .ref (m + 10), .int (nI (ty)), .int (nI (he)), .int er, .int ea, .int fa, .ref (m + 11), .int (nI (cn))])) := by rw [← e3]; exact (xup_ne (by omega)).trans o0
      have ga : F3 (m + 1) = some (.inr (0, 4730, fun b9 => .int (nI (g1 b9)))) := by rw [← e3]; exact xup_eq
      have hag : ∀ a9 : Nat, (a9 < m ∨ m + 2 ≤ a9) → F3 a9 = F a9 := fun a9 q0 => by rw [← e3]; exact (xup_ne (by omega)).trans (hag a9 q0)
      have hf : ∀ q, q ≠ 10 + c - 97 → g1 q = g q := fun q hq => by rw [← eg1, updN_ne hq]
      have kr : rRow g1 (updN A.1 (c - 97) x.toNatClampNeg, A.2) := ⟨⟨(hf 0 (by omega)).trans q0, (hf 1 (by omega)).trans q1, (hf 2 (by omega)).trans q2, (hf 3 (by omega)).trans q3, (hf 4 (by omega)).trans q4, (hf 5 (by omega)).trans q5, (hf 6 (by omega)).trans q6, (hf 7 (by omega)).trans q7, (hf 9 (by omega)).trans q9⟩, fun j hj => by show g1 (10 + j) = updN A.1 (c - 97) x.toNatClampNeg j; by_cases e : j = c - 97; (rw [e, updN_eq, ← eg1, updN_at (by omega)]); (rw [updN_ne e, hf _ (by omega)]; exact qw j hj), fun j (hj : j < A.2.1.1) => by rw [hf _ (by omega)]; exact qd j hj, fun i (hi : i < A.2.2.1.1) => rMsg_ext (um i hi).2.2.1 (fun q hq => hf _ (by omega)) (qm i hi), fun (hk : 0 < A.2.2.2.1.1) => ⟨(hf 8 (by omega)).trans (qf hk).1, fun j hj => ⟨(hf _ (by omega)).trans ((qf hk).2.1 j hj).1, (hf _ (by omega)).trans ((qf hk).2.1 j hj).2⟩, fun j (hj : j < A.2.2.2.1.2.2.1) => by rw [hf _ (by omega)]; exact (qf hk).2.2 j hj⟩, fun j (hj : j < A.2.2.2.2.1.1) => by rw [hf _ (by omega)]; exact qx j hj, fun b (hb : b < A.2.2.2.1.1) p hp => (hf _ (by omega)).trans (qb b hb p hp)⟩
      have ko : ∀ q, 430 ≤ q → g1 q = g q := fun q hq => hf q (by omega)
      refine x_iconst hC d_MessageCoderModel_weighs_48 (v := nI 0) (by decide) ?_
      refine hret _ _ _ _ _ _ _ d_MessageCoderModel_weighs_49 (by decide) (by decide) rfl ?_
      have e9 : aWt A c x = (nI (A.1 (c - 97)), (updN A.1 (c - 97) x.toNatClampNeg, A.2)) := if_pos ⟨c_4, c_14⟩
      exact ⟨g1, nI (A.1 (c - 97)), by rw [e9, codN_n (by omega)], rfl, o0, ga, by rw [e9]; exact kr, ko, fun _ => by rw [e9], hag⟩
    · skip
      refine x_iconst hC d_MessageCoderModel_weighs_17 (v := nI 1) (by decide) ?_
      refine hret _ _ _ _ _ _ _ d_MessageCoderModel_weighs_18 (by decide) (by decide) rfl ?_
      have e9 : aWt A c x = (-1, A) := if_neg (fun h9 => c_14 h9.2)
      exact ⟨g, rs, by rw [e9]; rfl, rfl, o0, ga, by rw [e9]; exact hr, fun _ _ => rfl, fun h9 => absurd h9 (by rw [e9]; show ¬ codN (-1) = 0; decide), hag⟩

theorem d_MessageCoderModel_drafts_0 : decode prog_14_method_31_code 0 = .ok (.iload_n 1, 1) := by decide +kernel
theorem d_MessageCoderModel_drafts_1 : decode prog_14_method_31_code 1 = .ok (.invokestatic 118, 3) := by decide +kernel
theorem d_MessageCoderModel_drafts_4 : decode prog_14_method_31_code 4 = .ok (.ifCond .ne 5, 3) := by decide +kernel
theorem d_MessageCoderModel_drafts_7 : decode prog_14_method_31_code 7 = .ok (.iconst 1, 1) := by decide +kernel
theorem d_MessageCoderModel_drafts_8 : decode prog_14_method_31_code 8 = .ok (.ireturn, 1) := by decide +kernel
theorem d_MessageCoderModel_drafts_9 : decode prog_14_method_31_code 9 = .ok (.aload_n 0, 1) := by decide +kernel
theorem d_MessageCoderModel_drafts_10 : decode prog_14_method_31_code 10 = .ok (.getfield 9, 3) := by decide +kernel
theorem d_MessageCoderModel_drafts_13 : decode prog_14_method_31_code 13 = .ok (.iconst 0, 1) := by decide +kernel
theorem d_MessageCoderModel_drafts_14 : decode prog_14_method_31_code 14 = .ok (.iaload, 1) := by decide +kernel
theorem d_MessageCoderModel_drafts_15 : decode prog_14_method_31_code 15 = .ok (.bipush 16, 2) := by decide +kernel
theorem d_MessageCoderModel_drafts_17 : decode prog_14_method_31_code 17 = .ok (.if_icmp .ne 5, 3) := by decide +kernel
theorem d_MessageCoderModel_drafts_20 : decode prog_14_method_31_code 20 = .ok (.iconst 2, 1) := by decide +kernel
theorem d_MessageCoderModel_drafts_21 : decode prog_14_method_31_code 21 = .ok (.ireturn, 1) := by decide +kernel
theorem d_MessageCoderModel_drafts_22 : decode prog_14_method_31_code 22 = .ok (.aload_n 0, 1) := by decide +kernel
theorem d_MessageCoderModel_drafts_23 : decode prog_14_method_31_code 23 = .ok (.getfield 9, 3) := by decide +kernel
theorem d_MessageCoderModel_drafts_26 : decode prog_14_method_31_code 26 = .ok (.bipush 18, 2) := by decide +kernel
theorem d_MessageCoderModel_drafts_28 : decode prog_14_method_31_code 28 = .ok (.aload_n 0, 1) := by decide +kernel
theorem d_MessageCoderModel_drafts_29 : decode prog_14_method_31_code 29 = .ok (.getfield 9, 3) := by decide +kernel
theorem d_MessageCoderModel_drafts_32 : decode prog_14_method_31_code 32 = .ok (.iconst 0, 1) := by decide +kernel
theorem d_MessageCoderModel_drafts_33 : decode prog_14_method_31_code 33 = .ok (.iaload, 1) := by decide +kernel
theorem d_MessageCoderModel_drafts_34 : decode prog_14_method_31_code 34 = .ok (.iadd, 1) := by decide +kernel
theorem d_MessageCoderModel_drafts_35 : decode prog_14_method_31_code 35 = .ok (.iload_n 1, 1) := by decide +kernel
theorem d_MessageCoderModel_drafts_36 : decode prog_14_method_31_code 36 = .ok (.bipush 97, 2) := by decide +kernel
theorem d_MessageCoderModel_drafts_38 : decode prog_14_method_31_code 38 = .ok (.isub, 1) := by decide +kernel
theorem d_MessageCoderModel_drafts_39 : decode prog_14_method_31_code 39 = .ok (.iastore, 1) := by decide +kernel
theorem d_MessageCoderModel_drafts_40 : decode prog_14_method_31_code 40 = .ok (.aload_n 0, 1) := by decide +kernel
theorem d_MessageCoderModel_drafts_41 : decode prog_14_method_31_code 41 = .ok (.getfield 9, 3) := by decide +kernel
theorem d_MessageCoderModel_drafts_44 : decode prog_14_method_31_code 44 = .ok (.iconst 0, 1) := by decide +kernel
theorem d_MessageCoderModel_drafts_45 : decode prog_14_method_31_code 45 = .ok (.dup2, 1) := by decide +kernel
theorem d_MessageCoderModel_drafts_46 : decode prog_14_method_31_code 46 = .ok (.iaload, 1) := by decide +kernel
theorem d_MessageCoderModel_drafts_47 : decode prog_14_method_31_code 47 = .ok (.iconst 1, 1) := by decide +kernel
theorem d_MessageCoderModel_drafts_48 : decode prog_14_method_31_code 48 = .ok (.iadd, 1) := by decide +kernel
theorem d_MessageCoderModel_drafts_49 : decode prog_14_method_31_code 49 = .ok (.iastore, 1) := by decide +kernel
theorem d_MessageCoderModel_drafts_50 : decode prog_14_method_31_code 50 = .ok (.aload_n 0, 1) := by decide +kernel
theorem d_MessageCoderModel_drafts_51 : decode prog_14_method_31_code 51 = .ok (.aload_n 0, 1) := by decide +kernel
theorem d_MessageCoderModel_drafts_52 : decode prog_14_method_31_code 52 = .ok (.getfield 9, 3) := by decide +kernel
theorem d_MessageCoderModel_drafts_55 : decode prog_14_method_31_code 55 = .ok (.iconst 0, 1) := by decide +kernel
theorem d_MessageCoderModel_drafts_56 : decode prog_14_method_31_code 56 = .ok (.iaload, 1) := by decide +kernel
theorem d_MessageCoderModel_drafts_57 : decode prog_14_method_31_code 57 = .ok (.putfield 61, 3) := by decide +kernel
theorem d_MessageCoderModel_drafts_60 : decode prog_14_method_31_code 60 = .ok (.iconst 0, 1) := by decide +kernel
theorem d_MessageCoderModel_drafts_61 : decode prog_14_method_31_code 61 = .ok (.ireturn, 1) := by decide +kernel
set_option maxHeartbeats 4000000 in
set_option maxRecDepth 20000 in
theorem c_MessageCoderModel_drafts {P : xP} {F : xF} {z : Nat} {m : Nat} {th : Nat} {ch : Nat} {sv : Nat} {rs : Int32} {bm : Nat} {dm : Nat} {lz : Nat} {ty : Nat} {he : Nat} {er : Int32} {ea : Int32} {fa : Int32} {cn : Nat} {g : Nat → Nat} {A : aS} {c : Nat} (o0 : F (m) = some (.inl (10, [.int (nI (th)), .ref (m + 1), .int (nI (ch)), .int (nI (sv)), .int rs, .ref (m + 2), .ref (m + 3), .ref (m + 4), .ref (m + 5), .ref (m + 6), .int (nI (bm)), .ref (m + 7), .int (nI (dm)), .ref (m + 8), .ref (m + 9), .int (nI (lz)), .ref (m + 10), .int (nI (ty)), .int (nI (he)), .int er, .int ea, .int fa, .ref (m + 11), .int (nI (cn))]))) (ga : F (m + 1) = some (.inr (0, 4730, fun b9 => .int (nI (g b9))))) (hr : rRow g A) (hA : aInv A) (hc : c < 65536) : xM P xy_MessageCoderModel_drafts [.ref m, .int (nI (c))] F (z) 0 0 (fun r9 F9 z9 => ∃ g1 : Nat → Nat, ∃ rs1 : Int32, r9 = some (.int (nI (codN (aDr A c).1))) ∧ z9 = z ∧ F9 (m) = some (.inl (10, [.int (nI (th)), .ref (m + 1), .int (nI (ch)), .int (nI (sv)), .int rs1, .ref (m + 2), .ref (m + 3), .ref (m + 4), .ref (m + 5), .ref (m + 6), .int (nI (bm)), .ref (m + 7), .int (nI (dm)), .ref (m + 8), .ref (m + 9), .int (nI (lz)), .ref (m + 10), .int (nI (ty)), .int (nI (he)), .int er, .int ea, .int fa, .ref (m + 11), .int (nI (cn))])) ∧ F9 (m + 1) = some (.inr (0, 4730, fun b9 => .int (nI (g1 b9)))) ∧ (rRow g1 (aDr A c).2) ∧ (∀ q, 430 ≤ q → g1 q = g q) ∧ (codN (aDr A c).1 = 0 → rs1 = (aDr A c).1) ∧ (∀ a9 : Nat, (a9 < m ∨ m + 2 ≤ a9) → F9 a9 = F a9)) := by
  refine xM_i .int rfl (Nat.le_of_ble_eq_true rfl) (L0 := [some (.ref m), some (.int (nI (c)))]) rfl rfl fun Θ hC hret => ?_
  have hag : ∀ a9 : Nat, (a9 < m ∨ m + 2 ≤ a9) → F a9 = F a9 := fun a9 _ => rfl
  obtain ⟨⟨q0, q1, q2, q3, q4, q5, q6, q7, q9⟩, qw, qd, qm, qf, qx, qb⟩ := id hr
  obtain ⟨⟨u1, u2, u3, u4, u5⟩, uw, ud, um, uo, ut, ux, ub, un9⟩ := id hA
  refine x_iload_n hC d_MessageCoderModel_drafts_0 rfl rfl ?_
  refine x_callS hC ks_MessageCoderModel_118 (c_MessageCoderModel_isSymbolN (hcb := by omega)) (by decide) rfl rfl rfl (Nat.le_of_ble_eq_true rfl) (by decide) d_MessageCoderModel_drafts_1 (fun r9 F9 z9 hp9 => ?_)
  obtain ⟨rfl, h9b, h9c⟩ := hp9
  rw [h9b, h9c]
  clear h9b h9c F9 z9
  refine x_ifB_ne hC d_MessageCoderModel_drafts_4 (tgt := 9) (by decide) (fun c_4 => ?_) (fun c_4 => ?_)
  · skip
    refine x_aload_n hC d_MessageCoderModel_drafts_9 rfl rfl ?_
    refine x_getf hC kf_MessageCoderModel_9 o0 rfl d_MessageCoderModel_drafts_10 ?_
    refine x_iconst hC d_MessageCoderModel_drafts_13 (v := nI 0) (by decide) ?_
    refine x_iald hC ga (j := 0) ⟨rfl, by omega, by omega⟩ (x := nI (A.2.1.1)) (congrArg nI q0) d_MessageCoderModel_drafts_14 ?_
    refine x_bipush hC d_MessageCoderModel_drafts_15 (v := nI 16) (by decide) ?_
    refine x_icmpN_ne hC d_MessageCoderModel_drafts_17 (tgt := 22) (by decide) (by omega) (by omega) (fun c_17 => ?_) (fun c_17 => ?_)
    · skip
      refine x_aload_n hC d_MessageCoderModel_drafts_22 rfl rfl ?_
      refine x_getf hC kf_MessageCoderModel_9 o0 rfl d_MessageCoderModel_drafts_23 ?_
      refine x_bipush hC d_MessageCoderModel_drafts_26 (v := nI 18) (by decide) ?_
      refine x_aload_n hC d_MessageCoderModel_drafts_28 rfl rfl ?_
      refine x_getf hC kf_MessageCoderModel_9 o0 rfl d_MessageCoderModel_drafts_29 ?_
      refine x_iconst hC d_MessageCoderModel_drafts_32 (v := nI 0) (by decide) ?_
      refine x_iald hC ga (j := 0) ⟨rfl, by omega, by omega⟩ (x := nI (A.2.1.1)) (congrArg nI q0) d_MessageCoderModel_drafts_33 ?_
      refine x_iadd hC d_MessageCoderModel_drafts_34 (v := (nI ((18) + (A.2.1.1)))) (x_addN (by omega)) ?_
      refine x_iload_n hC d_MessageCoderModel_drafts_35 rfl rfl ?_
      refine x_bipush hC d_MessageCoderModel_drafts_36 (v := nI 97) (by decide) ?_
      refine x_isub hC d_MessageCoderModel_drafts_38 (v := (nI ((c) - 97))) (pk_sub (by omega)) ?_
      refine x_iast hC ga (j := (18) + (A.2.1.1)) ⟨rfl, by omega, by omega⟩ d_MessageCoderModel_drafts_39 (g1 := fun b9 => nI (updN g ((18) + (A.2.1.1)) ((c) - 97) b9)) (x_updN _ _ _) ?_
      generalize ega1 : updN g ((18) + (A.2.1.1)) ((c) - 97) = ga1
      generalize e2 : xup F (m + 1) (.inr (0, 4730, fun b9 => .int (nI (ga1 b9)))) = F2
      have o0 : F2 (m) = some (.inl (10, [.int (nI (th)), .ref (m + 1), .int (nI (ch)), .int (nI (sv)), .int rs, .ref (m + 2), .ref (m + 3), .ref (m + 4), .ref (m + 5), .ref (m + 6), .int (nI (bm)), .ref (m + 7), .int (nI (dm)), .ref (m + 8), .ref (m + 9), .int (nI (lz)), .ref (m + 10), .int (nI (ty)), .int (nI (he)), .int er, .int ea, .int fa, .ref (m + 11), .int (nI (cn))])) := by rw [← e2]; exact (xup_ne (by omega)).trans o0
      have ga : F2 (m + 1) = some (.inr (0, 4730, fun b9 => .int (nI (ga1 b9)))) := by rw [← e2]; exact xup_eq
      have hag : ∀ a9 : Nat, (a9 < m ∨ m + 2 ≤ a9) → F2 a9 = F a9 := fun a9 q0 => by rw [← e2]; exact (xup_ne (by omega)).trans (hag a9 q0)
      refine x_aload_n hC d_MessageCoderModel_drafts_40 rfl rfl ?_
      refine x_getf hC kf_MessageCoderModel_9 o0 rfl d_MessageCoderModel_drafts_41 ?_
      refine x_iconst hC d_MessageCoderModel_drafts_44 (v := nI 0) (by decide) ?_
      refine x_dup2 hC d_MessageCoderModel_drafts_45 rfl rfl ?_
      refine x_iald hC ga (j := 0) ⟨rfl, by omega, by omega⟩ (x := nI (A.2.1.1)) (congrArg nI (by rw [← ega1, updN_ne (by omega)]; exact q0)) d_MessageCoderModel_drafts_46 ?_
      refine x_iconst hC d_MessageCoderModel_drafts_47 (v := nI 1) (by decide) ?_
      refine x_iadd hC d_MessageCoderModel_drafts_48 (v := (nI (A.2.1.1 + 1))) (x_addN (by omega)) ?_
      refine x_iast hC ga (j := 0) ⟨rfl, by omega, by omega⟩ d_MessageCoderModel_drafts_49 (g1 := fun b9 => nI (updN ga1 (0) (A.2.1.1 + 1) b9)) (x_updN _ _ _) ?_
      generalize eg1 : updN ga1 (0) (A.2.1.1 + 1) = g1
      generalize e4 : xup F2 (m + 1) (.inr (0, 4730, fun b9 => .int (nI (g1 b9)))) = F4
      have o0 : F4 (m) = some (.inl (10, [.int (nI (th)), .ref (m + 1), .int (nI (ch)), .int (nI (sv)), .int rs, .ref (m + 2), .ref (m + 3), .ref (m + 4), .ref (m + 5), .ref (m + 6), .int (nI (bm)), .ref (m + 7), .int (nI (dm)), .ref (m + 8), .ref (m + 9), .int (nI (lz)), .ref (m + 10), .int (nI (ty)), .int (nI (he)), .int er, .int ea, .int fa, .ref (m + 11), .int (nI (cn))])) := by rw [← e4]; exact (xup_ne (by omega)).trans o0
      have ga : F4 (m + 1) = some (.inr (0, 4730, fun b9 => .int (nI (g1 b9)))) := by rw [← e4]; exact xup_eq
      have hag : ∀ a9 : Nat, (a9 < m ∨ m + 2 ≤ a9) → F4 a9 = F a9 := fun a9 q0 => by rw [← e4]; exact (xup_ne (by omega)).trans (hag a9 q0)
      refine x_aload_n hC d_MessageCoderModel_drafts_50 rfl rfl ?_
      refine x_aload_n hC d_MessageCoderModel_drafts_51 rfl rfl ?_
      refine x_getf hC kf_MessageCoderModel_9 o0 rfl d_MessageCoderModel_drafts_52 ?_
      refine x_iconst hC d_MessageCoderModel_drafts_55 (v := nI 0) (by decide) ?_
      refine x_iald hC ga (j := 0) ⟨rfl, by omega, by omega⟩ (x := nI (A.2.1.1 + 1)) (congrArg nI (by rw [← eg1]; exact updN_eq)) d_MessageCoderModel_drafts_56 ?_
      refine x_putf hC kf_MessageCoderModel_61 o0 (Nat.le_of_ble_eq_true rfl) rfl rfl d_MessageCoderModel_drafts_57 (fs1 := [.int (nI (th)), .ref (m + 1), .int (nI (ch)), .int (nI (sv)), .int (nI (A.2.1.1 + 1)), .ref (m + 2), .ref (m + 3), .ref (m + 4), .ref (m + 5), .ref (m + 6), .int (nI (bm)), .ref (m + 7), .int (nI (dm)), .ref (m + 8), .ref (m + 9), .int (nI (lz)), .ref (m + 10), .int (nI (ty)), .int (nI (he)), .int er, .int ea, .int fa, .ref (m + 11), .int (nI (cn))]) rfl ?_
      generalize e5 : xup F4 (m) (.inl (10, [.int (nI (th)), .ref (m + 1), .int (nI (ch)), .int (nI (sv)), .int (nI (A.2.1.1 + 1)), .ref (m + 2), .ref (m + 3), .ref (m + 4), .ref (m + 5), .ref (m + 6), .int (nI (bm)), .ref (m + 7), .int (nI (dm)), .ref (m + 8), .ref (m + 9), .int (nI (lz)), .ref (m + 10), .int (nI (ty)), .int (nI (he)), .int er, .int ea, .int fa, .ref (m + 11), .int (nI (cn))])) = F5
      have o0 : F5 (m) = some (.inl (10, [.int (nI (th)), .ref (m + 1), .int (nI (ch)), .int (nI (sv)), .int (nI (A.2.1.1 + 1)), .ref (m + 2), .ref (m + 3), .ref (m + 4), .ref (m + 5), .ref (m + 6), .int (nI (bm)), .ref (m + 7), .int (nI (dm)), .ref (m + 8), .ref (m + 9), .int (nI (lz)), .ref (m + 10), .int (nI (ty)), .int (nI (he)), .int er, .int ea, .int fa, .ref (m + 11), .int (nI (cn))])) := by rw [← e5]; exact xup_eq
      have ga : F5 (m + 1) = some (.inr (0, 4730, fun b9 => .int (nI (g1 b9)))) := by rw [← e5]; exact (xup_ne (by omega)).trans ga
      have hag : ∀ a9 : Nat, (a9 < m ∨ m + 2 ≤ a9) → F5 a9 = F a9 := fun a9 q0 => by rw [← e5]; exact (xup_ne (by omega)).trans (hag a9 q0)
      have hf : ∀ q, q ≠ 0 ∧ q ≠ 18 + A.2.1.1 → g1 q = g q := fun q hq => by rw [← eg1, updN_ne hq.1, ← ega1, updN_ne hq.2]
      have kr : rRow g1 (A.1, (A.2.1.1 + 1, updN A.2.1.2 A.2.1.1 c), A.2.2) := ⟨⟨by rw [← eg1]; exact updN_eq, (hf 1 (by omega)).trans q1, (hf 2 (by omega)).trans q2, (hf 3 (by omega)).trans q3, (hf 4 (by omega)).trans q4, (hf 5 (by omega)).trans q5, (hf 6 (by omega)).trans q6, (hf 7 (by omega)).trans q7, (hf 9 (by omega)).trans q9⟩, fun j (hj : j < 8) => (hf _ (by omega)).trans (qw j hj), fun j (hj : j < A.2.1.1 + 1) => by show g1 (18 + j) + 97 = updN A.2.1.2 A.2.1.1 c j; by_cases e : j = A.2.1.1; (rw [e, updN_eq, ← eg1, updN_ne (by omega), ← ega1, updN_eq]; omega); (rw [updN_ne e, hf _ (by omega)]; exact qd j (by omega)), fun i (hi : i < A.2.2.1.1) => rMsg_ext (um i hi).2.2.1 (fun q hq => hf _ (by omega)) (qm i hi), fun (hk : 0 < A.2.2.2.1.1) => ⟨(hf 8 (by omega)).trans (qf hk).1, fun j hj => ⟨(hf _ (by omega)).trans ((qf hk).2.1 j hj).1, (hf _ (by omega)).trans ((qf hk).2.1 j hj).2⟩, fun j (hj : j < A.2.2.2.1.2.2.1) => by rw [hf _ (by omega)]; exact (qf hk).2.2 j hj⟩, fun j (hj : j < A.2.2.2.2.1.1) => by rw [hf _ (by omega)]; exact qx j hj, fun b (hb : b < A.2.2.2.1.1) p hp => (hf _ (by omega)).trans (qb b hb p hp)⟩
      have ko : ∀ q, 430 ≤ q → g1 q = g q := fun q hq => hf q (by omega)
      refine x_iconst hC d_MessageCoderModel_drafts_60 (v := nI 0) (by decide) ?_
      refine hret _ _ _ _ _ _ _ d_MessageCoderModel_drafts_61 (by decide) (by decide) rfl ?_
      have e9 : aDr A c = (nI (A.2.1.1 + 1), (A.1, (A.2.1.1 + 1, updN A.2.1.2 A.2.1.1 c), A.2.2)) := (if_pos c_4).trans (if_pos (by omega))
      exact ⟨g1, nI (A.2.1.1 + 1), by rw [e9, codN_n (by omega)], rfl, o0, ga, by rw [e9]; exact kr, ko, fun _ => by rw [e9], hag⟩
    · skip
      refine x_iconst hC d_MessageCoderModel_drafts_20 (v := nI 2) (by decide) ?_
      refine hret _ _ _ _ _ _ _ d_MessageCoderModel_drafts_21 (by decide) (by decide) rfl ?_
      have e9 : aDr A c = (-2, A) := (if_pos c_4).trans (if_neg (by omega))
      exact ⟨g, rs, by rw [e9]; rfl, rfl, o0, ga, by rw [e9]; exact hr, fun _ _ => rfl, fun h9 => absurd h9 (by rw [e9]; show ¬ codN (-2) = 0; decide), hag⟩
  · skip
    refine x_iconst hC d_MessageCoderModel_drafts_7 (v := nI 1) (by decide) ?_
    refine hret _ _ _ _ _ _ _ d_MessageCoderModel_drafts_8 (by decide) (by decide) rfl ?_
    have e9 : aDr A c = (-1, A) := if_neg c_4
    exact ⟨g, rs, by rw [e9]; rfl, rfl, o0, ga, by rw [e9]; exact hr, fun _ _ => rfl, fun h9 => absurd h9 (by rw [e9]; show ¬ codN (-1) = 0; decide), hag⟩

theorem d_MessageCoderModel_clears_0 : decode prog_14_method_33_code 0 = .ok (.aload_n 0, 1) := by decide +kernel
theorem d_MessageCoderModel_clears_1 : decode prog_14_method_33_code 1 = .ok (.aload_n 0, 1) := by decide +kernel
theorem d_MessageCoderModel_clears_2 : decode prog_14_method_33_code 2 = .ok (.getfield 9, 3) := by decide +kernel
theorem d_MessageCoderModel_clears_5 : decode prog_14_method_33_code 5 = .ok (.iconst 0, 1) := by decide +kernel
theorem d_MessageCoderModel_clears_6 : decode prog_14_method_33_code 6 = .ok (.iaload, 1) := by decide +kernel
theorem d_MessageCoderModel_clears_7 : decode prog_14_method_33_code 7 = .ok (.putfield 61, 3) := by decide +kernel
theorem d_MessageCoderModel_clears_10 : decode prog_14_method_33_code 10 = .ok (.aload_n 0, 1) := by decide +kernel
theorem d_MessageCoderModel_clears_11 : decode prog_14_method_33_code 11 = .ok (.getfield 9, 3) := by decide +kernel
theorem d_MessageCoderModel_clears_14 : decode prog_14_method_33_code 14 = .ok (.iconst 0, 1) := by decide +kernel
theorem d_MessageCoderModel_clears_15 : decode prog_14_method_33_code 15 = .ok (.iconst 0, 1) := by decide +kernel
theorem d_MessageCoderModel_clears_16 : decode prog_14_method_33_code 16 = .ok (.iastore, 1) := by decide +kernel
theorem d_MessageCoderModel_clears_17 : decode prog_14_method_33_code 17 = .ok (.iconst 0, 1) := by decide +kernel
theorem d_MessageCoderModel_clears_18 : decode prog_14_method_33_code 18 = .ok (.istore_n 1, 1) := by decide +kernel
theorem d_MessageCoderModel_clears_19 : decode prog_14_method_33_code 19 = .ok (.iload_n 1, 1) := by decide +kernel
theorem d_MessageCoderModel_clears_20 : decode prog_14_method_33_code 20 = .ok (.bipush 16, 2) := by decide +kernel
theorem d_MessageCoderModel_clears_22 : decode prog_14_method_33_code 22 = .ok (.if_icmp .ge 19, 3) := by decide +kernel
theorem d_MessageCoderModel_clears_25 : decode prog_14_method_33_code 25 = .ok (.aload_n 0, 1) := by decide +kernel
theorem d_MessageCoderModel_clears_26 : decode prog_14_method_33_code 26 = .ok (.getfield 9, 3) := by decide +kernel
theorem d_MessageCoderModel_clears_29 : decode prog_14_method_33_code 29 = .ok (.bipush 18, 2) := by decide +kernel
theorem d_MessageCoderModel_clears_31 : decode prog_14_method_33_code 31 = .ok (.iload_n 1, 1) := by decide +kernel
theorem d_MessageCoderModel_clears_32 : decode prog_14_method_33_code 32 = .ok (.iadd, 1) := by decide +kernel
theorem d_MessageCoderModel_clears_33 : decode prog_14_method_33_code 33 = .ok (.iconst 0, 1) := by decide +kernel
theorem d_MessageCoderModel_clears_34 : decode prog_14_method_33_code 34 = .ok (.iastore, 1) := by decide +kernel
theorem d_MessageCoderModel_clears_35 : decode prog_14_method_33_code 35 = .ok (.iinc 1 1, 3) := by decide +kernel
theorem d_MessageCoderModel_clears_38 : decode prog_14_method_33_code 38 = .ok (.goto (-19), 3) := by decide +kernel
theorem d_MessageCoderModel_clears_41 : decode prog_14_method_33_code 41 = .ok (.iconst 0, 1) := by decide +kernel
theorem d_MessageCoderModel_clears_42 : decode prog_14_method_33_code 42 = .ok (.ireturn, 1) := by decide +kernel
set_option maxHeartbeats 4000000 in
set_option maxRecDepth 20000 in
theorem c_MessageCoderModel_clears {P : xP} {F : xF} {z : Nat} {m : Nat} {th : Nat} {ch : Nat} {sv : Nat} {rs : Int32} {bm : Nat} {dm : Nat} {lz : Nat} {ty : Nat} {he : Nat} {er : Int32} {ea : Int32} {fa : Int32} {cn : Nat} {g : Nat → Nat} (o0 : F (m) = some (.inl (10, [.int (nI (th)), .ref (m + 1), .int (nI (ch)), .int (nI (sv)), .int rs, .ref (m + 2), .ref (m + 3), .ref (m + 4), .ref (m + 5), .ref (m + 6), .int (nI (bm)), .ref (m + 7), .int (nI (dm)), .ref (m + 8), .ref (m + 9), .int (nI (lz)), .ref (m + 10), .int (nI (ty)), .int (nI (he)), .int er, .int ea, .int fa, .ref (m + 11), .int (nI (cn))]))) (ga : F (m + 1) = some (.inr (0, 4730, fun b9 => .int (nI (g b9)))))  : xM P xy_MessageCoderModel_clears [.ref m] F (z) 0 0 (fun r9 F9 z9 => r9 = some (.int (nI 0)) ∧ z9 = z ∧ F9 (m) = some (.inl (10, [.int (nI (th)), .ref (m + 1), .int (nI (ch)), .int (nI (sv)), .int (nI (g 0)), .ref (m + 2), .ref (m + 3), .ref (m + 4), .ref (m + 5), .ref (m + 6), .int (nI (bm)), .ref (m + 7), .int (nI (dm)), .ref (m + 8), .ref (m + 9), .int (nI (lz)), .ref (m + 10), .int (nI (ty)), .int (nI (he)), .int er, .int ea, .int fa, .ref (m + 11), .int (nI (cn))])) ∧ F9 (m + 1) = some (.inr (0, 4730, fun b9 => .int (nI ((clG g) b9)))) ∧ (∀ a9 : Nat, (a9 < m ∨ m + 2 ≤ a9) → F9 a9 = F a9)) := by
  refine xM_i .int rfl (Nat.le_of_ble_eq_true rfl) (L0 := [some (.ref m), none]) rfl rfl fun Θ hC hret => ?_
  have hag : ∀ a9 : Nat, (a9 < m ∨ m + 2 ≤ a9) → F a9 = F a9 := fun a9 _ => rfl
  refine x_aload_n hC d_MessageCoderModel_clears_0 rfl rfl ?_
  refine x_aload_n hC d_MessageCoderModel_clears_1 rfl rfl ?_
  refine x_getf hC kf_MessageCoderModel_9 o0 rfl d_MessageCoderModel_clears_2 ?_
  refine x_iconst hC d_MessageCoderModel_clears_5 (v := nI 0) (by decide) ?_
  refine x_iald hC ga (j := 0) ⟨rfl, by omega, by omega⟩ (x := nI (g (0))) rfl d_MessageCoderModel_clears_6 ?_
  refine x_putf hC kf_MessageCoderModel_61 o0 (Nat.le_of_ble_eq_true rfl) rfl rfl d_MessageCoderModel_clears_7 (fs1 := [.int (nI (th)), .ref (m + 1), .int (nI (ch)), .int (nI (sv)), .int (nI (g (0))), .ref (m + 2), .ref (m + 3), .ref (m + 4), .ref (m + 5), .ref (m + 6), .int (nI (bm)), .ref (m + 7), .int (nI (dm)), .ref (m + 8), .ref (m + 9), .int (nI (lz)), .ref (m + 10), .int (nI (ty)), .int (nI (he)), .int er, .int ea, .int fa, .ref (m + 11), .int (nI (cn))]) rfl ?_
  generalize e1 : xup F (m) (.inl (10, [.int (nI (th)), .ref (m + 1), .int (nI (ch)), .int (nI (sv)), .int (nI (g (0))), .ref (m + 2), .ref (m + 3), .ref (m + 4), .ref (m + 5), .ref (m + 6), .int (nI (bm)), .ref (m + 7), .int (nI (dm)), .ref (m + 8), .ref (m + 9), .int (nI (lz)), .ref (m + 10), .int (nI (ty)), .int (nI (he)), .int er, .int ea, .int fa, .ref (m + 11), .int (nI (cn))])) = F1
  have o0 : F1 (m) = some (.inl (10, [.int (nI (th)), .ref (m + 1), .int (nI (ch)), .int (nI (sv)), .int (nI (g (0))), .ref (m + 2), .ref (m + 3), .ref (m + 4), .ref (m + 5), .ref (m + 6), .int (nI (bm)), .ref (m + 7), .int (nI (dm)), .ref (m + 8), .ref (m + 9), .int (nI (lz)), .ref (m + 10), .int (nI (ty)), .int (nI (he)), .int er, .int ea, .int fa, .ref (m + 11), .int (nI (cn))])) := by rw [← e1]; exact xup_eq
  have ga : F1 (m + 1) = some (.inr (0, 4730, fun b9 => .int (nI (g b9)))) := by rw [← e1]; exact (xup_ne (by omega)).trans ga
  have hag : ∀ a9 : Nat, (a9 < m ∨ m + 2 ≤ a9) → F1 a9 = F a9 := fun a9 q0 => by rw [← e1]; exact (xup_ne (by omega)).trans (hag a9 q0)
  refine x_aload_n hC d_MessageCoderModel_clears_10 rfl rfl ?_
  refine x_getf hC kf_MessageCoderModel_9 o0 rfl d_MessageCoderModel_clears_11 ?_
  refine x_iconst hC d_MessageCoderModel_clears_14 (v := nI 0) (by decide) ?_
  refine x_iconst hC d_MessageCoderModel_clears_15 (v := nI 0) (by decide) ?_
  refine x_iast hC ga (j := 0) ⟨rfl, by omega, by omega⟩ d_MessageCoderModel_clears_16 (g1 := fun b9 => nI (updN g (0) (0) b9)) (x_updN _ _ _) ?_
  generalize egz : updN g (0) (0) = gz
  generalize e3 : xup F1 (m + 1) (.inr (0, 4730, fun b9 => .int (nI (gz b9)))) = F3
  have o0 : F3 (m) = some (.inl (10, [.int (nI (th)), .ref (m + 1), .int (nI (ch)), .int (nI (sv)), .int (nI (g (0))), .ref (m + 2), .ref (m + 3), .ref (m + 4), .ref (m + 5), .ref (m + 6), .int (nI (bm)), .ref (m + 7), .int (nI (dm)), .ref (m + 8), .ref (m + 9), .int (nI (lz)), .ref (m + 10), .int (nI (ty)), .int (nI (he)), .int er, .int ea, .int fa, .ref (m + 11), .int (nI (cn))])) := by rw [← e3]; exact (xup_ne (by omega)).trans o0
  have ga : F3 (m + 1) = some (.inr (0, 4730, fun b9 => .int (nI (gz b9)))) := by rw [← e3]; exact xup_eq
  have hag : ∀ a9 : Nat, (a9 < m ∨ m + 2 ≤ a9) → F3 a9 = F a9 := fun a9 q0 => by rw [← e3]; exact (xup_ne (by omega)).trans (hag a9 q0)
  have hgz : gz = zer (updN g 0 0) 18 0 := by rw [zer_0, egz]
  rw [hgz] at ga
  refine x_iconst hC d_MessageCoderModel_clears_17 (v := nI 0) (by decide) ?_
  refine x_istore_n hC d_MessageCoderModel_clears_18 rfl (Nat.le_of_ble_eq_true rfl) (L1 := [some (.ref m), some (.int (nI 0))]) rfl ?_
  have loop_19 : ∀ (m9 : Nat) (Fh19 : xF) (i : Nat), (Fh19 (m) = some (.inl (10, [.int (nI (th)), .ref (m + 1), .int (nI (ch)), .int (nI (sv)), .int (nI (g 0)), .ref (m + 2), .ref (m + 3), .ref (m + 4), .ref (m + 5), .ref (m + 6), .int (nI (bm)), .ref (m + 7), .int (nI (dm)), .ref (m + 8), .ref (m + 9), .int (nI (lz)), .ref (m + 10), .int (nI (ty)), .int (nI (he)), .int er, .int ea, .int fa, .ref (m + 11), .int (nI (cn))]))) → (Fh19 (m + 1) = some (.inr (0, 4730, fun b9 => .int (nI ((zer (updN g 0 0) 18 i) b9))))) → (∀ a9 : Nat, (a9 < m ∨ m + 2 ≤ a9) → Fh19 a9 = F a9) → (i ≤ 16) → (16 - i < m9) → xX P Θ 19 [some (.ref m), some (.int (nI (i)))] [] Fh19 (z) 0 0 := by
    intro m9
    induction m9 with
    | zero => intros; omega
    | succ m9 ih_19 =>
      intro Fh19 i o0 ga hag hi hm_19
      refine x_iload_n hC d_MessageCoderModel_clears_19 rfl rfl ?_
      refine x_bipush hC d_MessageCoderModel_clears_20 (v := nI 16) (by decide) ?_
      refine x_icmpN_ge hC d_MessageCoderModel_clears_22 (tgt := 41) (by decide) (by omega) (by omega) (fun c_22 => ?_) (fun c_22 => ?_)
      · skip
        obtain rfl : i = 16 := by omega
        refine x_iconst hC d_MessageCoderModel_clears_41 (v := nI 0) (by decide) ?_
        exact hret _ _ _ _ _ _ _ d_MessageCoderModel_clears_42 (by decide) (by decide) rfl (⟨rfl, rfl, o0, ga, hag⟩)
      · skip
        refine x_aload_n hC d_MessageCoderModel_clears_25 rfl rfl ?_
        refine x_getf hC kf_MessageCoderModel_9 o0 rfl d_MessageCoderModel_clears_26 ?_
        refine x_bipush hC d_MessageCoderModel_clears_29 (v := nI 18) (by decide) ?_
        refine x_iload_n hC d_MessageCoderModel_clears_31 rfl rfl ?_
        refine x_iadd hC d_MessageCoderModel_clears_32 (v := (nI (18 + i))) (x_addN (by omega)) ?_
        refine x_iconst hC d_MessageCoderModel_clears_33 (v := nI 0) (by decide) ?_
        refine x_iast hC ga (j := 18 + i) ⟨rfl, by omega, by omega⟩ d_MessageCoderModel_clears_34 (g1 := fun b9 => nI (updN ((zer (updN g 0 0) 18 i)) (18 + i) (0) b9)) (x_updN _ _ _) ?_
        generalize egx : updN ((zer (updN g 0 0) 18 i)) (18 + i) (0) = gx
        generalize e5 : xup Fh19 (m + 1) (.inr (0, 4730, fun b9 => .int (nI (gx b9)))) = F5
        have o0 : F5 (m) = some (.inl (10, [.int (nI (th)), .ref (m + 1), .int (nI (ch)), .int (nI (sv)), .int (nI (g 0)), .ref (m + 2), .ref (m + 3), .ref (m + 4), .ref (m + 5), .ref (m + 6), .int (nI (bm)), .ref (m + 7), .int (nI (dm)), .ref (m + 8), .ref (m + 9), .int (nI (lz)), .ref (m + 10), .int (nI (ty)), .int (nI (he)), .int er, .int ea, .int fa, .ref (m + 11), .int (nI (cn))])) := by rw [← e5]; exact (xup_ne (by omega)).trans o0
        have ga : F5 (m + 1) = some (.inr (0, 4730, fun b9 => .int (nI (gx b9)))) := by rw [← e5]; exact xup_eq
        have hag : ∀ a9 : Nat, (a9 < m ∨ m + 2 ≤ a9) → F5 a9 = F a9 := fun a9 q0 => by rw [← e5]; exact (xup_ne (by omega)).trans (hag a9 q0)
        have hgx : gx = zer (updN g 0 0) 18 (i + 1) := egx.symm.trans (zer_s _ _ _)
        rw [hgx] at ga
        refine x_iinc hC d_MessageCoderModel_clears_35 rfl (v := (nI (i + 1))) (x_incN 1) (Nat.le_of_ble_eq_true rfl) (L1 := [some (.ref m), some (.int (nI (i + 1)))]) rfl ?_
        refine x_goto hC d_MessageCoderModel_clears_38 (tgt := 19) (by decide) ?_
        exact ih_19 F5 (i + 1) o0 ga hag (by omega) (by omega)
  exact loop_19 (16 - 0 + 1) F3 (0) o0 ga hag (by omega) (by omega)

theorem d_MessageCoderModel_clearsFrame_0 : decode prog_14_method_47_code 0 = .ok (.aload_n 0, 1) := by decide +kernel
theorem d_MessageCoderModel_clearsFrame_1 : decode prog_14_method_47_code 1 = .ok (.getfield 9, 3) := by decide +kernel
theorem d_MessageCoderModel_clearsFrame_4 : decode prog_14_method_47_code 4 = .ok (.bipush 7, 2) := by decide +kernel
theorem d_MessageCoderModel_clearsFrame_6 : decode prog_14_method_47_code 6 = .ok (.iconst 0, 1) := by decide +kernel
theorem d_MessageCoderModel_clearsFrame_7 : decode prog_14_method_47_code 7 = .ok (.iastore, 1) := by decide +kernel
theorem d_MessageCoderModel_clearsFrame_8 : decode prog_14_method_47_code 8 = .ok (.aload_n 0, 1) := by decide +kernel
theorem d_MessageCoderModel_clearsFrame_9 : decode prog_14_method_47_code 9 = .ok (.getfield 9, 3) := by decide +kernel
theorem d_MessageCoderModel_clearsFrame_12 : decode prog_14_method_47_code 12 = .ok (.bipush 8, 2) := by decide +kernel
theorem d_MessageCoderModel_clearsFrame_14 : decode prog_14_method_47_code 14 = .ok (.iconst 0, 1) := by decide +kernel
theorem d_MessageCoderModel_clearsFrame_15 : decode prog_14_method_47_code 15 = .ok (.iastore, 1) := by decide +kernel
theorem d_MessageCoderModel_clearsFrame_16 : decode prog_14_method_47_code 16 = .ok (.sipush 186, 3) := by decide +kernel
theorem d_MessageCoderModel_clearsFrame_19 : decode prog_14_method_47_code 19 = .ok (.istore_n 1, 1) := by decide +kernel
theorem d_MessageCoderModel_clearsFrame_20 : decode prog_14_method_47_code 20 = .ok (.iload_n 1, 1) := by decide +kernel
theorem d_MessageCoderModel_clearsFrame_21 : decode prog_14_method_47_code 21 = .ok (.sipush 218, 3) := by decide +kernel
theorem d_MessageCoderModel_clearsFrame_24 : decode prog_14_method_47_code 24 = .ok (.if_icmp .ge 16, 3) := by decide +kernel
theorem d_MessageCoderModel_clearsFrame_27 : decode prog_14_method_47_code 27 = .ok (.aload_n 0, 1) := by decide +kernel
theorem d_MessageCoderModel_clearsFrame_28 : decode prog_14_method_47_code 28 = .ok (.getfield 9, 3) := by decide +kernel
theorem d_MessageCoderModel_clearsFrame_31 : decode prog_14_method_47_code 31 = .ok (.iload_n 1, 1) := by decide +kernel
theorem d_MessageCoderModel_clearsFrame_32 : decode prog_14_method_47_code 32 = .ok (.iconst 0, 1) := by decide +kernel
theorem d_MessageCoderModel_clearsFrame_33 : decode prog_14_method_47_code 33 = .ok (.iastore, 1) := by decide +kernel
theorem d_MessageCoderModel_clearsFrame_34 : decode prog_14_method_47_code 34 = .ok (.iinc 1 1, 3) := by decide +kernel
theorem d_MessageCoderModel_clearsFrame_37 : decode prog_14_method_47_code 37 = .ok (.goto (-17), 3) := by decide +kernel
theorem d_MessageCoderModel_clearsFrame_40 : decode prog_14_method_47_code 40 = .ok (.sipush 234, 3) := by decide +kernel
theorem d_MessageCoderModel_clearsFrame_43 : decode prog_14_method_47_code 43 = .ok (.istore_n 1, 1) := by decide +kernel
theorem d_MessageCoderModel_clearsFrame_44 : decode prog_14_method_47_code 44 = .ok (.iload_n 1, 1) := by decide +kernel
theorem d_MessageCoderModel_clearsFrame_45 : decode prog_14_method_47_code 45 = .ok (.sipush 430, 3) := by decide +kernel
theorem d_MessageCoderModel_clearsFrame_48 : decode prog_14_method_47_code 48 = .ok (.if_icmp .ge 16, 3) := by decide +kernel
theorem d_MessageCoderModel_clearsFrame_51 : decode prog_14_method_47_code 51 = .ok (.aload_n 0, 1) := by decide +kernel
theorem d_MessageCoderModel_clearsFrame_52 : decode prog_14_method_47_code 52 = .ok (.getfield 9, 3) := by decide +kernel
theorem d_MessageCoderModel_clearsFrame_55 : decode prog_14_method_47_code 55 = .ok (.iload_n 1, 1) := by decide +kernel
theorem d_MessageCoderModel_clearsFrame_56 : decode prog_14_method_47_code 56 = .ok (.iconst 0, 1) := by decide +kernel
theorem d_MessageCoderModel_clearsFrame_57 : decode prog_14_method_47_code 57 = .ok (.iastore, 1) := by decide +kernel
theorem d_MessageCoderModel_clearsFrame_58 : decode prog_14_method_47_code 58 = .ok (.iinc 1 1, 3) := by decide +kernel
theorem d_MessageCoderModel_clearsFrame_61 : decode prog_14_method_47_code 61 = .ok (.goto (-17), 3) := by decide +kernel
theorem d_MessageCoderModel_clearsFrame_64 : decode prog_14_method_47_code 64 = .ok (.return_, 1) := by decide +kernel
set_option maxHeartbeats 4000000 in
set_option maxRecDepth 20000 in
theorem c_MessageCoderModel_clearsFrame {P : xP} {F : xF} {z : Nat} {m : Nat} {th : Nat} {ch : Nat} {sv : Nat} {rs : Int32} {bm : Nat} {dm : Nat} {lz : Nat} {ty : Nat} {he : Nat} {er : Int32} {ea : Int32} {fa : Int32} {cn : Nat} {g : Nat → Nat} (o0 : F (m) = some (.inl (10, [.int (nI (th)), .ref (m + 1), .int (nI (ch)), .int (nI (sv)), .int rs, .ref (m + 2), .ref (m + 3), .ref (m + 4), .ref (m + 5), .ref (m + 6), .int (nI (bm)), .ref (m + 7), .int (nI (dm)), .ref (m + 8), .ref (m + 9), .int (nI (lz)), .ref (m + 10), .int (nI (ty)), .int (nI (he)), .int er, .int ea, .int fa, .ref (m + 11), .int (nI (cn))]))) (ga : F (m + 1) = some (.inr (0, 4730, fun b9 => .int (nI (g b9)))))  : xM P xy_MessageCoderModel_clearsFrame [.ref m] F (z) 0 0 (fun r9 F9 z9 => r9 = none ∧ z9 = z ∧ F9 (m) = some (.inl (10, [.int (nI (th)), .ref (m + 1), .int (nI (ch)), .int (nI (sv)), .int rs, .ref (m + 2), .ref (m + 3), .ref (m + 4), .ref (m + 5), .ref (m + 6), .int (nI (bm)), .ref (m + 7), .int (nI (dm)), .ref (m + 8), .ref (m + 9), .int (nI (lz)), .ref (m + 10), .int (nI (ty)), .int (nI (he)), .int er, .int ea, .int fa, .ref (m + 11), .int (nI (cn))])) ∧ F9 (m + 1) = some (.inr (0, 4730, fun b9 => .int (nI ((cfG g) b9)))) ∧ (∀ a9 : Nat, (a9 < m + 1 ∨ m + 1 + 1 ≤ a9) → F9 a9 = F a9)) := by
  refine xM_v rfl (Nat.le_of_ble_eq_true rfl) (L0 := [some (.ref m), none]) rfl rfl fun Θ hC hin hret => ?_
  have hag : ∀ a9 : Nat, (a9 < m + 1 ∨ m + 1 + 1 ≤ a9) → F a9 = F a9 := fun a9 _ => rfl
  refine x_aload_n hC d_MessageCoderModel_clearsFrame_0 rfl rfl ?_
  refine x_getf hC kf_MessageCoderModel_9 o0 rfl d_MessageCoderModel_clearsFrame_1 ?_
  refine x_bipush hC d_MessageCoderModel_clearsFrame_4 (v := nI 7) (by decide) ?_
  refine x_iconst hC d_MessageCoderModel_clearsFrame_6 (v := nI 0) (by decide) ?_
  refine x_iast hC ga (j := 7) ⟨rfl, by omega, by omega⟩ d_MessageCoderModel_clearsFrame_7 (g1 := fun b9 => nI (updN g (7) (0) b9)) (x_updN _ _ _) ?_
  generalize egy : updN g (7) (0) = gy
  generalize e2 : xup F (m + 1) (.inr (0, 4730, fun b9 => .int (nI (gy b9)))) = F2
  have o0 : F2 (m) = some (.inl (10, [.int (nI (th)), .ref (m + 1), .int (nI (ch)), .int (nI (sv)), .int rs, .ref (m + 2), .ref (m + 3), .ref (m + 4), .ref (m + 5), .ref (m + 6), .int (nI (bm)), .ref (m + 7), .int (nI (dm)), .ref (m + 8), .ref (m + 9), .int (nI (lz)), .ref (m + 10), .int (nI (ty)), .int (nI (he)), .int er, .int ea, .int fa, .ref (m + 11), .int (nI (cn))])) := by rw [← e2]; exact (xup_ne (by omega)).trans o0
  have ga : F2 (m + 1) = some (.inr (0, 4730, fun b9 => .int (nI (gy b9)))) := by rw [← e2]; exact xup_eq
  have hag : ∀ a9 : Nat, (a9 < m + 1 ∨ m + 1 + 1 ≤ a9) → F2 a9 = F a9 := fun a9 q0 => by rw [← e2]; exact (xup_ne (by omega)).trans (hag a9 q0)
  refine x_aload_n hC d_MessageCoderModel_clearsFrame_8 rfl rfl ?_
  refine x_getf hC kf_MessageCoderModel_9 o0 rfl d_MessageCoderModel_clearsFrame_9 ?_
  refine x_bipush hC d_MessageCoderModel_clearsFrame_12 (v := nI 8) (by decide) ?_
  refine x_iconst hC d_MessageCoderModel_clearsFrame_14 (v := nI 0) (by decide) ?_
  refine x_iast hC ga (j := 8) ⟨rfl, by omega, by omega⟩ d_MessageCoderModel_clearsFrame_15 (g1 := fun b9 => nI (updN gy (8) (0) b9)) (x_updN _ _ _) ?_
  generalize egz : updN gy (8) (0) = gz
  generalize e4 : xup F2 (m + 1) (.inr (0, 4730, fun b9 => .int (nI (gz b9)))) = F4
  have o0 : F4 (m) = some (.inl (10, [.int (nI (th)), .ref (m + 1), .int (nI (ch)), .int (nI (sv)), .int rs, .ref (m + 2), .ref (m + 3), .ref (m + 4), .ref (m + 5), .ref (m + 6), .int (nI (bm)), .ref (m + 7), .int (nI (dm)), .ref (m + 8), .ref (m + 9), .int (nI (lz)), .ref (m + 10), .int (nI (ty)), .int (nI (he)), .int er, .int ea, .int fa, .ref (m + 11), .int (nI (cn))])) := by rw [← e4]; exact (xup_ne (by omega)).trans o0
  have ga : F4 (m + 1) = some (.inr (0, 4730, fun b9 => .int (nI (gz b9)))) := by rw [← e4]; exact xup_eq
  have hag : ∀ a9 : Nat, (a9 < m + 1 ∨ m + 1 + 1 ≤ a9) → F4 a9 = F a9 := fun a9 q0 => by rw [← e4]; exact (xup_ne (by omega)).trans (hag a9 q0)
  have hgz : gz = zer (updN (updN g 7 0) 8 0) 186 0 := by rw [zer_0, ← egz, ← egy]
  rw [hgz] at ga
  refine x_sipush hC d_MessageCoderModel_clearsFrame_16 (v := nI 186) (by decide) ?_
  refine x_istore_n hC d_MessageCoderModel_clearsFrame_19 rfl (Nat.le_of_ble_eq_true rfl) (L1 := [some (.ref m), some (.int (nI 186))]) rfl ?_
  have loop_20 : ∀ (m9 : Nat) (Fh20 : xF) (i : Nat), (Fh20 (m) = some (.inl (10, [.int (nI (th)), .ref (m + 1), .int (nI (ch)), .int (nI (sv)), .int rs, .ref (m + 2), .ref (m + 3), .ref (m + 4), .ref (m + 5), .ref (m + 6), .int (nI (bm)), .ref (m + 7), .int (nI (dm)), .ref (m + 8), .ref (m + 9), .int (nI (lz)), .ref (m + 10), .int (nI (ty)), .int (nI (he)), .int er, .int ea, .int fa, .ref (m + 11), .int (nI (cn))]))) → (Fh20 (m + 1) = some (.inr (0, 4730, fun b9 => .int (nI ((zer (updN (updN g 7 0) 8 0) 186 i) b9))))) → (∀ a9 : Nat, (a9 < m + 1 ∨ m + 1 + 1 ≤ a9) → Fh20 a9 = F a9) → (i ≤ 32) → (32 - i < m9) → xX P Θ 20 [some (.ref m), some (.int (nI (186 + i)))] [] Fh20 (z) 0 0 := by
    intro m9
    induction m9 with
    | zero => intros; omega
    | succ m9 ih_20 =>
      intro Fh20 i o0 ga hag hi hm_20
      refine x_iload_n hC d_MessageCoderModel_clearsFrame_20 rfl rfl ?_
      refine x_sipush hC d_MessageCoderModel_clearsFrame_21 (v := nI 218) (by decide) ?_
      refine x_icmpN_ge hC d_MessageCoderModel_clearsFrame_24 (tgt := 40) (by decide) (by omega) (by omega) (fun c_24 => ?_) (fun c_24 => ?_)
      · skip
        have e32 : i = 32 := by omega
        have ga : Fh20 (m + 1) = some (.inr (0, 4730, fun b9 => .int (nI ((zer (zer (updN (updN g 7 0) 8 0) 186 32) 234 0) b9)))) := by rw [zer_0, ← e32]; exact ga
        refine x_sipush hC d_MessageCoderModel_clearsFrame_40 (v := nI 234) (by decide) ?_
        refine x_istore_n hC d_MessageCoderModel_clearsFrame_43 rfl (Nat.le_of_ble_eq_true rfl) (L1 := [some (.ref m), some (.int (nI 234))]) rfl ?_
        have loop_44 : ∀ (m9 : Nat) (Fh44 : xF) (i : Nat), (Fh44 (m) = some (.inl (10, [.int (nI (th)), .ref (m + 1), .int (nI (ch)), .int (nI (sv)), .int rs, .ref (m + 2), .ref (m + 3), .ref (m + 4), .ref (m + 5), .ref (m + 6), .int (nI (bm)), .ref (m + 7), .int (nI (dm)), .ref (m + 8), .ref (m + 9), .int (nI (lz)), .ref (m + 10), .int (nI (ty)), .int (nI (he)), .int er, .int ea, .int fa, .ref (m + 11), .int (nI (cn))]))) → (Fh44 (m + 1) = some (.inr (0, 4730, fun b9 => .int (nI ((zer (zer (updN (updN g 7 0) 8 0) 186 32) 234 i) b9))))) → (∀ a9 : Nat, (a9 < m + 1 ∨ m + 1 + 1 ≤ a9) → Fh44 a9 = F a9) → (i ≤ 196) → (196 - i < m9) → xX P Θ 44 [some (.ref m), some (.int (nI (234 + i)))] [] Fh44 (z) 0 0 := by
          intro m9
          induction m9 with
          | zero => intros; omega
          | succ m9 ih_44 =>
            intro Fh44 i o0 ga hag hi hm_44
            refine x_iload_n hC d_MessageCoderModel_clearsFrame_44 rfl rfl ?_
            refine x_sipush hC d_MessageCoderModel_clearsFrame_45 (v := nI 430) (by decide) ?_
            refine x_icmpN_ge hC d_MessageCoderModel_clearsFrame_48 (tgt := 64) (by decide) (by omega) (by omega) (fun c_48 => ?_) (fun c_48 => ?_)
            · skip
              obtain rfl : i = 196 := by omega
              exact hret _ _ _ _ _ _ d_MessageCoderModel_clearsFrame_64 (by decide) (by decide) (⟨rfl, rfl, o0, ga, hag⟩)
            · skip
              refine x_aload_n hC d_MessageCoderModel_clearsFrame_51 rfl rfl ?_
              refine x_getf hC kf_MessageCoderModel_9 o0 rfl d_MessageCoderModel_clearsFrame_52 ?_
              refine x_iload_n hC d_MessageCoderModel_clearsFrame_55 rfl rfl ?_
              refine x_iconst hC d_MessageCoderModel_clearsFrame_56 (v := nI 0) (by decide) ?_
              refine x_iast hC ga (j := 234 + i) ⟨rfl, by omega, by omega⟩ d_MessageCoderModel_clearsFrame_57 (g1 := fun b9 => nI (updN ((zer (zer (updN (updN g 7 0) 8 0) 186 32) 234 i)) (234 + i) (0) b9)) (x_updN _ _ _) ?_
              generalize egx : updN ((zer (zer (updN (updN g 7 0) 8 0) 186 32) 234 i)) (234 + i) (0) = gx
              generalize e6 : xup Fh44 (m + 1) (.inr (0, 4730, fun b9 => .int (nI (gx b9)))) = F6
              have o0 : F6 (m) = some (.inl (10, [.int (nI (th)), .ref (m + 1), .int (nI (ch)), .int (nI (sv)), .int rs, .ref (m + 2), .ref (m + 3), .ref (m + 4), .ref (m + 5), .ref (m + 6), .int (nI (bm)), .ref (m + 7), .int (nI (dm)), .ref (m + 8), .ref (m + 9), .int (nI (lz)), .ref (m + 10), .int (nI (ty)), .int (nI (he)), .int er, .int ea, .int fa, .ref (m + 11), .int (nI (cn))])) := by rw [← e6]; exact (xup_ne (by omega)).trans o0
              have ga : F6 (m + 1) = some (.inr (0, 4730, fun b9 => .int (nI (gx b9)))) := by rw [← e6]; exact xup_eq
              have hag : ∀ a9 : Nat, (a9 < m + 1 ∨ m + 1 + 1 ≤ a9) → F6 a9 = F a9 := fun a9 q0 => by rw [← e6]; exact (xup_ne (by omega)).trans (hag a9 q0)
              have hgx : gx = zer (zer (updN (updN g 7 0) 8 0) 186 32) 234 (i + 1) := egx.symm.trans (zer_s _ _ _)
              rw [hgx] at ga
              refine x_iinc hC d_MessageCoderModel_clearsFrame_58 rfl (v := (nI (234 + i + 1))) (x_incN 1) (Nat.le_of_ble_eq_true rfl) (L1 := [some (.ref m), some (.int (nI (234 + i + 1)))]) rfl ?_
              refine x_goto hC d_MessageCoderModel_clearsFrame_61 (tgt := 44) (by decide) ?_
              exact ih_44 F6 (i + 1) o0 ga hag (by omega) (by omega)
        exact loop_44 (196 - 0 + 1) Fh20 (0) o0 ga hag (by omega) (by omega)
      · skip
        refine x_aload_n hC d_MessageCoderModel_clearsFrame_27 rfl rfl ?_
        refine x_getf hC kf_MessageCoderModel_9 o0 rfl d_MessageCoderModel_clearsFrame_28 ?_
        refine x_iload_n hC d_MessageCoderModel_clearsFrame_31 rfl rfl ?_
        refine x_iconst hC d_MessageCoderModel_clearsFrame_32 (v := nI 0) (by decide) ?_
        refine x_iast hC ga (j := 186 + i) ⟨rfl, by omega, by omega⟩ d_MessageCoderModel_clearsFrame_33 (g1 := fun b9 => nI (updN ((zer (updN (updN g 7 0) 8 0) 186 i)) (186 + i) (0) b9)) (x_updN _ _ _) ?_
        generalize egx : updN ((zer (updN (updN g 7 0) 8 0) 186 i)) (186 + i) (0) = gx
        generalize e8 : xup Fh20 (m + 1) (.inr (0, 4730, fun b9 => .int (nI (gx b9)))) = F8
        have o0 : F8 (m) = some (.inl (10, [.int (nI (th)), .ref (m + 1), .int (nI (ch)), .int (nI (sv)), .int rs, .ref (m + 2), .ref (m + 3), .ref (m + 4), .ref (m + 5), .ref (m + 6), .int (nI (bm)), .ref (m + 7), .int (nI (dm)), .ref (m + 8), .ref (m + 9), .int (nI (lz)), .ref (m + 10), .int (nI (ty)), .int (nI (he)), .int er, .int ea, .int fa, .ref (m + 11), .int (nI (cn))])) := by rw [← e8]; exact (xup_ne (by omega)).trans o0
        have ga : F8 (m + 1) = some (.inr (0, 4730, fun b9 => .int (nI (gx b9)))) := by rw [← e8]; exact xup_eq
        have hag : ∀ a9 : Nat, (a9 < m + 1 ∨ m + 1 + 1 ≤ a9) → F8 a9 = F a9 := fun a9 q0 => by rw [← e8]; exact (xup_ne (by omega)).trans (hag a9 q0)
        have hgx : gx = zer (updN (updN g 7 0) 8 0) 186 (i + 1) := egx.symm.trans (zer_s _ _ _)
        rw [hgx] at ga
        refine x_iinc hC d_MessageCoderModel_clearsFrame_34 rfl (v := (nI (186 + i + 1))) (x_incN 1) (Nat.le_of_ble_eq_true rfl) (L1 := [some (.ref m), some (.int (nI (186 + i + 1)))]) rfl ?_
        refine x_goto hC d_MessageCoderModel_clearsFrame_37 (tgt := 20) (by decide) ?_
        exact ih_20 F8 (i + 1) o0 ga hag (by omega) (by omega)
  exact loop_20 (32 - 0 + 1) F4 (0) o0 ga hag (by omega) (by omega)

theorem d_MessageCoderModel_leaves_0 : decode prog_14_method_37_code 0 = .ok (.aload_n 0, 1) := by decide +kernel
theorem d_MessageCoderModel_leaves_1 : decode prog_14_method_37_code 1 = .ok (.getfield 9, 3) := by decide +kernel
theorem d_MessageCoderModel_leaves_4 : decode prog_14_method_37_code 4 = .ok (.iconst 1, 1) := by decide +kernel
theorem d_MessageCoderModel_leaves_5 : decode prog_14_method_37_code 5 = .ok (.iaload, 1) := by decide +kernel
theorem d_MessageCoderModel_leaves_6 : decode prog_14_method_37_code 6 = .ok (.iconst 1, 1) := by decide +kernel
theorem d_MessageCoderModel_leaves_7 : decode prog_14_method_37_code 7 = .ok (.isub, 1) := by decide +kernel
theorem d_MessageCoderModel_leaves_8 : decode prog_14_method_37_code 8 = .ok (.istore_n 2, 1) := by decide +kernel
theorem d_MessageCoderModel_leaves_9 : decode prog_14_method_37_code 9 = .ok (.bipush 34, 2) := by decide +kernel
theorem d_MessageCoderModel_leaves_11 : decode prog_14_method_37_code 11 = .ok (.bipush 19, 2) := by decide +kernel
theorem d_MessageCoderModel_leaves_13 : decode prog_14_method_37_code 13 = .ok (.iload_n 1, 1) := by decide +kernel
theorem d_MessageCoderModel_leaves_14 : decode prog_14_method_37_code 14 = .ok (.imul, 1) := by decide +kernel
theorem d_MessageCoderModel_leaves_15 : decode prog_14_method_37_code 15 = .ok (.iadd, 1) := by decide +kernel
theorem d_MessageCoderModel_leaves_16 : decode prog_14_method_37_code 16 = .ok (.istore_n 3, 1) := by decide +kernel
theorem d_MessageCoderModel_leaves_17 : decode prog_14_method_37_code 17 = .ok (.iload_n 3, 1) := by decide +kernel
theorem d_MessageCoderModel_leaves_18 : decode prog_14_method_37_code 18 = .ok (.bipush 34, 2) := by decide +kernel
theorem d_MessageCoderModel_leaves_20 : decode prog_14_method_37_code 20 = .ok (.bipush 19, 2) := by decide +kernel
theorem d_MessageCoderModel_leaves_22 : decode prog_14_method_37_code 22 = .ok (.iload_n 2, 1) := by decide +kernel
theorem d_MessageCoderModel_leaves_23 : decode prog_14_method_37_code 23 = .ok (.imul, 1) := by decide +kernel
theorem d_MessageCoderModel_leaves_24 : decode prog_14_method_37_code 24 = .ok (.iadd, 1) := by decide +kernel
theorem d_MessageCoderModel_leaves_25 : decode prog_14_method_37_code 25 = .ok (.if_icmp .ge 24, 3) := by decide +kernel
theorem d_MessageCoderModel_leaves_28 : decode prog_14_method_37_code 28 = .ok (.aload_n 0, 1) := by decide +kernel
theorem d_MessageCoderModel_leaves_29 : decode prog_14_method_37_code 29 = .ok (.getfield 9, 3) := by decide +kernel
theorem d_MessageCoderModel_leaves_32 : decode prog_14_method_37_code 32 = .ok (.iload_n 3, 1) := by decide +kernel
theorem d_MessageCoderModel_leaves_33 : decode prog_14_method_37_code 33 = .ok (.aload_n 0, 1) := by decide +kernel
theorem d_MessageCoderModel_leaves_34 : decode prog_14_method_37_code 34 = .ok (.getfield 9, 3) := by decide +kernel
theorem d_MessageCoderModel_leaves_37 : decode prog_14_method_37_code 37 = .ok (.iload_n 3, 1) := by decide +kernel
theorem d_MessageCoderModel_leaves_38 : decode prog_14_method_37_code 38 = .ok (.bipush 19, 2) := by decide +kernel
theorem d_MessageCoderModel_leaves_40 : decode prog_14_method_37_code 40 = .ok (.iadd, 1) := by decide +kernel
theorem d_MessageCoderModel_leaves_41 : decode prog_14_method_37_code 41 = .ok (.iaload, 1) := by decide +kernel
theorem d_MessageCoderModel_leaves_42 : decode prog_14_method_37_code 42 = .ok (.iastore, 1) := by decide +kernel
theorem d_MessageCoderModel_leaves_43 : decode prog_14_method_37_code 43 = .ok (.iinc 3 1, 3) := by decide +kernel
theorem d_MessageCoderModel_leaves_46 : decode prog_14_method_37_code 46 = .ok (.goto (-29), 3) := by decide +kernel
theorem d_MessageCoderModel_leaves_49 : decode prog_14_method_37_code 49 = .ok (.iconst 0, 1) := by decide +kernel
theorem d_MessageCoderModel_leaves_50 : decode prog_14_method_37_code 50 = .ok (.istore_n 3, 1) := by decide +kernel
theorem d_MessageCoderModel_leaves_51 : decode prog_14_method_37_code 51 = .ok (.iload_n 3, 1) := by decide +kernel
theorem d_MessageCoderModel_leaves_52 : decode prog_14_method_37_code 52 = .ok (.bipush 19, 2) := by decide +kernel
theorem d_MessageCoderModel_leaves_54 : decode prog_14_method_37_code 54 = .ok (.if_icmp .ge 24, 3) := by decide +kernel
theorem d_MessageCoderModel_leaves_57 : decode prog_14_method_37_code 57 = .ok (.aload_n 0, 1) := by decide +kernel
theorem d_MessageCoderModel_leaves_58 : decode prog_14_method_37_code 58 = .ok (.getfield 9, 3) := by decide +kernel
theorem d_MessageCoderModel_leaves_61 : decode prog_14_method_37_code 61 = .ok (.bipush 34, 2) := by decide +kernel
theorem d_MessageCoderModel_leaves_63 : decode prog_14_method_37_code 63 = .ok (.bipush 19, 2) := by decide +kernel
theorem d_MessageCoderModel_leaves_65 : decode prog_14_method_37_code 65 = .ok (.iload_n 2, 1) := by decide +kernel
theorem d_MessageCoderModel_leaves_66 : decode prog_14_method_37_code 66 = .ok (.imul, 1) := by decide +kernel
theorem d_MessageCoderModel_leaves_67 : decode prog_14_method_37_code 67 = .ok (.iadd, 1) := by decide +kernel
theorem d_MessageCoderModel_leaves_68 : decode prog_14_method_37_code 68 = .ok (.iload_n 3, 1) := by decide +kernel
theorem d_MessageCoderModel_leaves_69 : decode prog_14_method_37_code 69 = .ok (.iadd, 1) := by decide +kernel
theorem d_MessageCoderModel_leaves_70 : decode prog_14_method_37_code 70 = .ok (.iconst 0, 1) := by decide +kernel
theorem d_MessageCoderModel_leaves_71 : decode prog_14_method_37_code 71 = .ok (.iastore, 1) := by decide +kernel
theorem d_MessageCoderModel_leaves_72 : decode prog_14_method_37_code 72 = .ok (.iinc 3 1, 3) := by decide +kernel
theorem d_MessageCoderModel_leaves_75 : decode prog_14_method_37_code 75 = .ok (.goto (-24), 3) := by decide +kernel
theorem d_MessageCoderModel_leaves_78 : decode prog_14_method_37_code 78 = .ok (.aload_n 0, 1) := by decide +kernel
theorem d_MessageCoderModel_leaves_79 : decode prog_14_method_37_code 79 = .ok (.getfield 9, 3) := by decide +kernel
theorem d_MessageCoderModel_leaves_82 : decode prog_14_method_37_code 82 = .ok (.iconst 1, 1) := by decide +kernel
theorem d_MessageCoderModel_leaves_83 : decode prog_14_method_37_code 83 = .ok (.iload_n 2, 1) := by decide +kernel
theorem d_MessageCoderModel_leaves_84 : decode prog_14_method_37_code 84 = .ok (.iastore, 1) := by decide +kernel
theorem d_MessageCoderModel_leaves_85 : decode prog_14_method_37_code 85 = .ok (.return_, 1) := by decide +kernel
set_option maxHeartbeats 4000000 in
set_option maxRecDepth 20000 in
theorem c_MessageCoderModel_leaves {P : xP} {F : xF} {z : Nat} {m : Nat} {th : Nat} {ch : Nat} {sv : Nat} {rs : Int32} {bm : Nat} {dm : Nat} {lz : Nat} {ty : Nat} {he : Nat} {er : Int32} {ea : Int32} {fa : Int32} {cn : Nat} {g : Nat → Nat} {k : Nat} {p : Nat} (o0 : F (m) = some (.inl (10, [.int (nI (th)), .ref (m + 1), .int (nI (ch)), .int (nI (sv)), .int rs, .ref (m + 2), .ref (m + 3), .ref (m + 4), .ref (m + 5), .ref (m + 6), .int (nI (bm)), .ref (m + 7), .int (nI (dm)), .ref (m + 8), .ref (m + 9), .int (nI (lz)), .ref (m + 10), .int (nI (ty)), .int (nI (he)), .int er, .int ea, .int fa, .ref (m + 11), .int (nI (cn))]))) (ga : F (m + 1) = some (.inr (0, 4730, fun b9 => .int (nI (g b9))))) (hk : g 1 = k) (hp : p < k) (hk8 : k ≤ 8) : xM P xy_MessageCoderModel_leaves [.ref m, .int (nI (p))] F (z) 0 0 (fun r9 F9 z9 => r9 = none ∧ z9 = z ∧ F9 (m) = some (.inl (10, [.int (nI (th)), .ref (m + 1), .int (nI (ch)), .int (nI (sv)), .int rs, .ref (m + 2), .ref (m + 3), .ref (m + 4), .ref (m + 5), .ref (m + 6), .int (nI (bm)), .ref (m + 7), .int (nI (dm)), .ref (m + 8), .ref (m + 9), .int (nI (lz)), .ref (m + 10), .int (nI (ty)), .int (nI (he)), .int er, .int ea, .int fa, .ref (m + 11), .int (nI (cn))])) ∧ F9 (m + 1) = some (.inr (0, 4730, fun b9 => .int (nI ((leG g k p) b9)))) ∧ (∀ a9 : Nat, (a9 < m + 1 ∨ m + 1 + 1 ≤ a9) → F9 a9 = F a9)) := by
  refine xM_v rfl (Nat.le_of_ble_eq_true rfl) (L0 := [some (.ref m), some (.int (nI (p))), none, none]) rfl rfl fun Θ hC hin hret => ?_
  have hag : ∀ a9 : Nat, (a9 < m + 1 ∨ m + 1 + 1 ≤ a9) → F a9 = F a9 := fun a9 _ => rfl
  refine x_aload_n hC d_MessageCoderModel_leaves_0 rfl rfl ?_
  refine x_getf hC kf_MessageCoderModel_9 o0 rfl d_MessageCoderModel_leaves_1 ?_
  refine x_iconst hC d_MessageCoderModel_leaves_4 (v := nI 1) (by decide) ?_
  refine x_iald hC ga (j := 1) ⟨rfl, by omega, by omega⟩ (x := nI (k)) (congrArg nI hk) d_MessageCoderModel_leaves_5 ?_
  refine x_iconst hC d_MessageCoderModel_leaves_6 (v := nI 1) (by decide) ?_
  refine x_isub hC d_MessageCoderModel_leaves_7 (v := (nI ((k) - 1))) (pk_sub (by omega)) ?_
  refine x_istore_n hC d_MessageCoderModel_leaves_8 rfl (Nat.le_of_ble_eq_true rfl) (L1 := [some (.ref m), some (.int (nI (p))), some (.int (nI ((k) - 1))), none]) rfl ?_
  refine x_bipush hC d_MessageCoderModel_leaves_9 (v := nI 34) (by decide) ?_
  refine x_bipush hC d_MessageCoderModel_leaves_11 (v := nI 19) (by decide) ?_
  refine x_iload_n hC d_MessageCoderModel_leaves_13 rfl rfl ?_
  refine x_imul hC d_MessageCoderModel_leaves_14 (v := (nI ((19) * (p)))) (pk_mul _ _) ?_
  refine x_iadd hC d_MessageCoderModel_leaves_15 (v := (nI ((34) + ((19) * (p))))) (x_addN (by omega)) ?_
  have ga : F (m + 1) = some (.inr (0, 4730, fun b9 => .int (nI ((shf g (34 + 19 * p) 0) b9)))) := by rw [shf_0]; exact ga
  refine x_istore_n hC d_MessageCoderModel_leaves_16 rfl (Nat.le_of_ble_eq_true rfl) (L1 := [some (.ref m), some (.int (nI (p))), some (.int (nI ((k) - 1))), some (.int (nI ((34) + ((19) * (p)))))]) rfl ?_
  have loop_17 : ∀ (m9 : Nat) (Fh17 : xF) (i : Nat), (Fh17 (m) = some (.inl (10, [.int (nI (th)), .ref (m + 1), .int (nI (ch)), .int (nI (sv)), .int rs, .ref (m + 2), .ref (m + 3), .ref (m + 4), .ref (m + 5), .ref (m + 6), .int (nI (bm)), .ref (m + 7), .int (nI (dm)), .ref (m + 8), .ref (m + 9), .int (nI (lz)), .ref (m + 10), .int (nI (ty)), .int (nI (he)), .int er, .int ea, .int fa, .ref (m + 11), .int (nI (cn))]))) → (Fh17 (m + 1) = some (.inr (0, 4730, fun b9 => .int (nI ((shf g (34 + 19 * p) i) b9))))) → (∀ a9 : Nat, (a9 < m + 1 ∨ m + 1 + 1 ≤ a9) → Fh17 a9 = F a9) → (i ≤ 19 * (k - 1 - p)) → (19 * (k - 1 - p) - i < m9) → xX P Θ 17 [some (.ref m), some (.int (nI (p))), some (.int (nI ((k) - 1))), some (.int (nI (34 + 19 * p + i)))] [] Fh17 (z) 0 0 := by
    intro m9
    induction m9 with
    | zero => intros; omega
    | succ m9 ih_17 =>
      intro Fh17 i o0 ga hag hi hm_17
      refine x_iload_n hC d_MessageCoderModel_leaves_17 rfl rfl ?_
      refine x_bipush hC d_MessageCoderModel_leaves_18 (v := nI 34) (by decide) ?_
      refine x_bipush hC d_MessageCoderModel_leaves_20 (v := nI 19) (by decide) ?_
      refine x_iload_n hC d_MessageCoderModel_leaves_22 rfl rfl ?_
      refine x_imul hC d_MessageCoderModel_leaves_23 (v := (nI ((19) * ((k) - 1)))) (pk_mul _ _) ?_
      refine x_iadd hC d_MessageCoderModel_leaves_24 (v := (nI ((34) + ((19) * ((k) - 1))))) (x_addN (by omega)) ?_
      refine x_icmpN_ge hC d_MessageCoderModel_leaves_25 (tgt := 49) (by decide) (by omega) (by omega) (fun c_25 => ?_) (fun c_25 => ?_)
      · skip
        have e18 : i = 19 * (k - 1 - p) := by omega
        have ga : Fh17 (m + 1) = some (.inr (0, 4730, fun b9 => .int (nI ((zer (shf g (34 + 19 * p) (19 * (k - 1 - p))) (34 + 19 * (k - 1)) 0) b9)))) := by rw [zer_0, ← e18]; exact ga
        refine x_iconst hC d_MessageCoderModel_leaves_49 (v := nI 0) (by decide) ?_
        refine x_istore_n hC d_MessageCoderModel_leaves_50 rfl (Nat.le_of_ble_eq_true rfl) (L1 := [some (.ref m), some (.int (nI (p))), some (.int (nI ((k) - 1))), some (.int (nI 0))]) rfl ?_
        have loop_51 : ∀ (m9 : Nat) (Fh51 : xF) (i : Nat), (Fh51 (m) = some (.inl (10, [.int (nI (th)), .ref (m + 1), .int (nI (ch)), .int (nI (sv)), .int rs, .ref (m + 2), .ref (m + 3), .ref (m + 4), .ref (m + 5), .ref (m + 6), .int (nI (bm)), .ref (m + 7), .int (nI (dm)), .ref (m + 8), .ref (m + 9), .int (nI (lz)), .ref (m + 10), .int (nI (ty)), .int (nI (he)), .int er, .int ea, .int fa, .ref (m + 11), .int (nI (cn))]))) → (Fh51 (m + 1) = some (.inr (0, 4730, fun b9 => .int (nI ((zer (shf g (34 + 19 * p) (19 * (k - 1 - p))) (34 + 19 * (k - 1)) i) b9))))) → (∀ a9 : Nat, (a9 < m + 1 ∨ m + 1 + 1 ≤ a9) → Fh51 a9 = F a9) → (i ≤ 19) → (19 - i < m9) → xX P Θ 51 [some (.ref m), some (.int (nI (p))), some (.int (nI ((k) - 1))), some (.int (nI (i)))] [] Fh51 (z) 0 0 := by
          intro m9
          induction m9 with
          | zero => intros; omega
          | succ m9 ih_51 =>
            intro Fh51 i o0 ga hag hi hm_51
            refine x_iload_n hC d_MessageCoderModel_leaves_51 rfl rfl ?_
            refine x_bipush hC d_MessageCoderModel_leaves_52 (v := nI 19) (by decide) ?_
            refine x_icmpN_ge hC d_MessageCoderModel_leaves_54 (tgt := 78) (by decide) (by omega) (by omega) (fun c_54 => ?_) (fun c_54 => ?_)
            · skip
              have e19 : i = 19 := by omega
              have ga : Fh51 (m + 1) = some (.inr (0, 4730, fun b9 => .int (nI ((zer (shf g (34 + 19 * p) (19 * (k - 1 - p))) (34 + 19 * (k - 1)) 19) b9)))) := by rw [e19] at ga; exact ga
              refine x_aload_n hC d_MessageCoderModel_leaves_78 rfl rfl ?_
              refine x_getf hC kf_MessageCoderModel_9 o0 rfl d_MessageCoderModel_leaves_79 ?_
              refine x_iconst hC d_MessageCoderModel_leaves_82 (v := nI 1) (by decide) ?_
              refine x_iload_n hC d_MessageCoderModel_leaves_83 rfl rfl ?_
              refine x_iast hC ga (j := 1) ⟨rfl, by omega, by omega⟩ d_MessageCoderModel_leaves_84 (g1 := fun b9 => nI (updN ((zer (shf g (34 + 19 * p) (19 * (k - 1 - p))) (34 + 19 * (k - 1)) 19)) (1) ((k) - 1) b9)) (x_updN _ _ _) ?_
              generalize eg9 : updN ((zer (shf g (34 + 19 * p) (19 * (k - 1 - p))) (34 + 19 * (k - 1)) 19)) (1) ((k) - 1) = g9
              generalize e2 : xup Fh51 (m + 1) (.inr (0, 4730, fun b9 => .int (nI (g9 b9)))) = F2
              have o0 : F2 (m) = some (.inl (10, [.int (nI (th)), .ref (m + 1), .int (nI (ch)), .int (nI (sv)), .int rs, .ref (m + 2), .ref (m + 3), .ref (m + 4), .ref (m + 5), .ref (m + 6), .int (nI (bm)), .ref (m + 7), .int (nI (dm)), .ref (m + 8), .ref (m + 9), .int (nI (lz)), .ref (m + 10), .int (nI (ty)), .int (nI (he)), .int er, .int ea, .int fa, .ref (m + 11), .int (nI (cn))])) := by rw [← e2]; exact (xup_ne (by omega)).trans o0
              have ga : F2 (m + 1) = some (.inr (0, 4730, fun b9 => .int (nI (g9 b9)))) := by rw [← e2]; exact xup_eq
              have hag : ∀ a9 : Nat, (a9 < m + 1 ∨ m + 1 + 1 ≤ a9) → F2 a9 = F a9 := fun a9 q0 => by rw [← e2]; exact (xup_ne (by omega)).trans (hag a9 q0)
              exact hret _ _ _ _ _ _ d_MessageCoderModel_leaves_85 (by decide) (by decide) (⟨rfl, rfl, o0, by rw [show leG g k p = g9 from eg9]; exact ga, hag⟩)
            · skip
              refine x_aload_n hC d_MessageCoderModel_leaves_57 rfl rfl ?_
              refine x_getf hC kf_MessageCoderModel_9 o0 rfl d_MessageCoderModel_leaves_58 ?_
              refine x_bipush hC d_MessageCoderModel_leaves_61 (v := nI 34) (by decide) ?_
              refine x_bipush hC d_MessageCoderModel_leaves_63 (v := nI 19) (by decide) ?_
              refine x_iload_n hC d_MessageCoderModel_leaves_65 rfl rfl ?_
              refine x_imul hC d_MessageCoderModel_leaves_66 (v := (nI ((19) * ((k) - 1)))) (pk_mul _ _) ?_
              refine x_iadd hC d_MessageCoderModel_leaves_67 (v := (nI ((34) + ((19) * ((k) - 1))))) (x_addN (by omega)) ?_
              refine x_iload_n hC d_MessageCoderModel_leaves_68 rfl rfl ?_
              refine x_iadd hC d_MessageCoderModel_leaves_69 (v := (nI ((34) + ((19) * ((k) - 1)) + i))) (x_addN (by omega)) ?_
              refine x_iconst hC d_MessageCoderModel_leaves_70 (v := nI 0) (by decide) ?_
              refine x_iast hC ga (j := (34) + ((19) * ((k) - 1)) + i) ⟨rfl, by omega, by omega⟩ d_MessageCoderModel_leaves_71 (g1 := fun b9 => nI (updN ((zer (shf g (34 + 19 * p) (19 * (k - 1 - p))) (34 + 19 * (k - 1)) i)) ((34) + ((19) * ((k) - 1)) + i) (0) b9)) (x_updN _ _ _) ?_
              generalize egx : updN ((zer (shf g (34 + 19 * p) (19 * (k - 1 - p))) (34 + 19 * (k - 1)) i)) ((34) + ((19) * ((k) - 1)) + i) (0) = gx
              generalize e4 : xup Fh51 (m + 1) (.inr (0, 4730, fun b9 => .int (nI (gx b9)))) = F4
              have o0 : F4 (m) = some (.inl (10, [.int (nI (th)), .ref (m + 1), .int (nI (ch)), .int (nI (sv)), .int rs, .ref (m + 2), .ref (m + 3), .ref (m + 4), .ref (m + 5), .ref (m + 6), .int (nI (bm)), .ref (m + 7), .int (nI (dm)), .ref (m + 8), .ref (m + 9), .int (nI (lz)), .ref (m + 10), .int (nI (ty)), .int (nI (he)), .int er, .int ea, .int fa, .ref (m + 11), .int (nI (cn))])) := by rw [← e4]; exact (xup_ne (by omega)).trans o0
              have ga : F4 (m + 1) = some (.inr (0, 4730, fun b9 => .int (nI (gx b9)))) := by rw [← e4]; exact xup_eq
              have hag : ∀ a9 : Nat, (a9 < m + 1 ∨ m + 1 + 1 ≤ a9) → F4 a9 = F a9 := fun a9 q0 => by rw [← e4]; exact (xup_ne (by omega)).trans (hag a9 q0)
              have hgx : gx = zer (shf g (34 + 19 * p) (19 * (k - 1 - p))) (34 + 19 * (k - 1)) (i + 1) := egx.symm.trans (zer_s _ _ _)
              rw [hgx] at ga
              refine x_iinc hC d_MessageCoderModel_leaves_72 rfl (v := (nI (i + 1))) (x_incN 1) (Nat.le_of_ble_eq_true rfl) (L1 := [some (.ref m), some (.int (nI (p))), some (.int (nI ((k) - 1))), some (.int (nI (i + 1)))]) rfl ?_
              refine x_goto hC d_MessageCoderModel_leaves_75 (tgt := 51) (by decide) ?_
              exact ih_51 F4 (i + 1) o0 ga hag (by omega) (by omega)
        exact loop_51 (19 - 0 + 1) Fh17 (0) o0 ga hag (by omega) (by omega)
      · skip
        refine x_aload_n hC d_MessageCoderModel_leaves_28 rfl rfl ?_
        refine x_getf hC kf_MessageCoderModel_9 o0 rfl d_MessageCoderModel_leaves_29 ?_
        refine x_iload_n hC d_MessageCoderModel_leaves_32 rfl rfl ?_
        refine x_aload_n hC d_MessageCoderModel_leaves_33 rfl rfl ?_
        refine x_getf hC kf_MessageCoderModel_9 o0 rfl d_MessageCoderModel_leaves_34 ?_
        refine x_iload_n hC d_MessageCoderModel_leaves_37 rfl rfl ?_
        refine x_bipush hC d_MessageCoderModel_leaves_38 (v := nI 19) (by decide) ?_
        refine x_iadd hC d_MessageCoderModel_leaves_40 (v := (nI (34 + 19 * p + i + 19))) (x_addN (by omega)) ?_
        refine x_iald hC ga (j := 34 + 19 * p + i + 19) ⟨rfl, by omega, by omega⟩ (x := nI (((shf g (34 + 19 * p) i)) (34 + 19 * p + i + 19))) rfl d_MessageCoderModel_leaves_41 ?_
        refine x_iast hC ga (j := 34 + 19 * p + i) ⟨rfl, by omega, by omega⟩ d_MessageCoderModel_leaves_42 (g1 := fun b9 => nI (updN ((shf g (34 + 19 * p) i)) (34 + 19 * p + i) (((shf g (34 + 19 * p) i)) (34 + 19 * p + i + 19)) b9)) (x_updN _ _ _) ?_
        generalize egx : updN ((shf g (34 + 19 * p) i)) (34 + 19 * p + i) (((shf g (34 + 19 * p) i)) (34 + 19 * p + i + 19)) = gx
        generalize e6 : xup Fh17 (m + 1) (.inr (0, 4730, fun b9 => .int (nI (gx b9)))) = F6
        have o0 : F6 (m) = some (.inl (10, [.int (nI (th)), .ref (m + 1), .int (nI (ch)), .int (nI (sv)), .int rs, .ref (m + 2), .ref (m + 3), .ref (m + 4), .ref (m + 5), .ref (m + 6), .int (nI (bm)), .ref (m + 7), .int (nI (dm)), .ref (m + 8), .ref (m + 9), .int (nI (lz)), .ref (m + 10), .int (nI (ty)), .int (nI (he)), .int er, .int ea, .int fa, .ref (m + 11), .int (nI (cn))])) := by rw [← e6]; exact (xup_ne (by omega)).trans o0
        have ga : F6 (m + 1) = some (.inr (0, 4730, fun b9 => .int (nI (gx b9)))) := by rw [← e6]; exact xup_eq
        have hag : ∀ a9 : Nat, (a9 < m + 1 ∨ m + 1 + 1 ≤ a9) → F6 a9 = F a9 := fun a9 q0 => by rw [← e6]; exact (xup_ne (by omega)).trans (hag a9 q0)
        have hgx : gx = shf g (34 + 19 * p) (i + 1) := egx.symm.trans (shf_s _ _ _)
        rw [hgx] at ga
        refine x_iinc hC d_MessageCoderModel_leaves_43 rfl (v := (nI (34 + 19 * p + i + 1))) (x_incN 1) (Nat.le_of_ble_eq_true rfl) (L1 := [some (.ref m), some (.int (nI (p))), some (.int (nI ((k) - 1))), some (.int (nI (34 + 19 * p + i + 1)))]) rfl ?_
        refine x_goto hC d_MessageCoderModel_leaves_46 (tgt := 17) (by decide) ?_
        exact ih_17 F6 (i + 1) o0 ga hag (by omega) (by omega)
  exact loop_17 (19 * (k - 1 - p) - 0 + 1) F (0) o0 ga hag (by omega) (by omega)

