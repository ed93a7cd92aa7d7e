/-! a queue: messages as tuples (id, priority, length, signs) -/
abbrev mS : Type := Nat × Nat × Nat × (Nat → Nat)
def updA {α : Type} (f : Nat → α) (k : Nat) (x : α) : Nat → α := fun j => if j = k then x else f j
theorem updA_eq {α : Type} {f : Nat → α} {k : Nat} {x : α} : updA f k x k = x := if_pos rfl
theorem updA_ne {α : Type} {f : Nat → α} {k j : Nat} {x : α} (h : j ≠ k) : updA f k x j = f j := if_neg h
theorem all8 {Q : Nat → Prop} (h0 : Q 0) (h1 : Q 1) (h2 : Q 2) (h3 : Q 3) (h4 : Q 4) (h5 : Q 5) (h6 : Q 6) (h7 : Q 7) : ∀ i, i < 8 → Q i := by
  intro i hi
  match i, hi with
  | 0, _ => exact h0
  | 1, _ => exact h1
  | 2, _ => exact h2
  | 3, _ => exact h3
  | 4, _ => exact h4
  | 5, _ => exact h5
  | 6, _ => exact h6
  | 7, _ => exact h7
  | j + 8, h => exact absurd h (by omega)
def xMm (F : xF) (a : Nat) (e : mS) : Prop := xMs F a e.1 e.2.1 e.2.2.1 e.2.2.2
/-- the messages behind q, at the places p -/
def xQm (F : xF) (q : Nat) (p : Nat → Nat) (m : Nat → mS) : Prop := (∀ i, i < 8 → p i < 8) ∧ (∀ i, i < 8 → ∀ j, j < 8 → p i = p j → i = j) ∧ ∀ i, i < 8 → xMm F (q + 2 + 3 * p i) (m i)
theorem xQm_fr {F F1 : xF} {q : Nat} {p : Nat → Nat} {m : Nat → mS} (h : xQm F q p m) (hf : ∀ a, q + 2 ≤ a → a < q + 2 + 24 → F1 a = F a) : xQm F1 q p m :=
  ⟨h.1, h.2.1, fun i hi => xMs_fr (h.2.2 i hi) (fun a q1 q2 => hf a (by omega) (by have := h.1 i hi; omega))⟩
theorem xQm_ext {F : xF} {q : Nat} {p : Nat → Nat} {m m2 : Nat → mS} (h : xQm F q p m) (hf : ∀ j, j < 8 → m j = m2 j) : xQm F q p m2 :=
  ⟨h.1, h.2.1, fun i hi => by rw [← hf i hi]; exact h.2.2 i hi⟩
theorem xQm_up {F F1 : xF} {q : Nat} {p : Nat → Nat} {m : Nat → mS} {i : Nat} {e : mS} (h : xQm F q p m) (hi : i < 8) (h1 : xMm F1 (q + 2 + 3 * p i) e) (hf : ∀ a, a < q + 2 + 3 * p i ∨ q + 2 + 3 * p i + 3 ≤ a → F1 a = F a) : xQm F1 q p (updA m i e) :=
  ⟨h.1, h.2.1, fun j hj => by
    by_cases e9 : j = i
    · subst e9
      rw [updA_eq]
      exact h1
    · rw [updA_ne e9]
      refine xMs_fr (h.2.2 j hj) (fun a q1 q2 => hf a ?_)
      have h2 : ¬ p j = p i := fun e8 => e9 (h.2.1 j hj i hi e8)
      omega⟩
def xQp (F : xF) (q k nx : Nat) (p : Nat → Nat) (m : Nat → mS) : Prop := F q = some (.inl (5, [.ref (q + 1), .int (nI k), .int (nI nx)])) ∧ (k ≤ 8 ∧ nx < 1000) ∧ (∃ f : Nat → Value, F (q + 1) = some (.inr (5, 8, f)) ∧ ∀ i, i < 8 → f i = .ref (q + 2 + 3 * p i)) ∧ xQm F q p m
theorem xQp_fr {F F1 : xF} {q k nx : Nat} {p : Nat → Nat} {m : Nat → mS} (h : xQp F q k nx p m) (hf : ∀ a, q ≤ a → a < q + 26 → F1 a = F a) : xQp F1 q k nx p m := by
  obtain ⟨h0, hk, ⟨f, h1, h2⟩, h3⟩ := h
  exact ⟨(hf _ (by omega) (by omega)).trans h0, hk, ⟨f, (hf _ (by omega) (by omega)).trans h1, h2⟩, xQm_fr h3 (fun a q1 q2 => hf a (by omega) (by omega))⟩
/-- the first index with P, else the count -/
def fsN (P : Nat → Bool) : Nat → Nat
  | 0 => 0
  | k + 1 => if fsN P k < k then fsN P k else if P k then k else k + 1
theorem fsN_none {P : Nat → Bool} : ∀ k, (∀ j, j < k → P j = false) → fsN P k = k
  | 0, _ => rfl
  | k + 1, h => by
    unfold fsN
    rw [fsN_none k (fun j hj => h j (by omega)), if_neg (by omega), if_neg (by rw [h k (by omega)]; decide)]
theorem fsN_hit {P : Nat → Bool} {i : Nat} (h1 : P i = true) (h0 : ∀ j, j < i → P j = false) : ∀ k, i < k → fsN P k = i
  | 0, h => absurd h (by omega)
  | k + 1, h => by
    unfold fsN
    by_cases e : i = k
    · subst e
      rw [fsN_none i h0, if_neg (by omega), if_pos h1]
    · rw [fsN_hit h1 h0 k (by omega), if_pos (by omega)]
theorem fsN_le (P : Nat → Bool) : ∀ k, fsN P k ≤ k
  | 0 => Nat.le_refl 0
  | k + 1 => by
    have h := fsN_le P k
    unfold fsN
    split
    · omega
    · split <;> omega
theorem fsN_sp {P : Nat → Bool} : ∀ k, fsN P k < k → P (fsN P k) = true ∧ ∀ j, j < fsN P k → P j = false
  | 0, h => absurd h (by omega)
  | k + 1, h => by
    unfold fsN at h ⊢
    by_cases h1 : fsN P k < k
    · rw [if_pos h1]
      exact fsN_sp k h1
    · rw [if_neg h1] at h ⊢
      have hk : fsN P k = k := by have := fsN_le P k; omega
      by_cases h2 : P k = true
      · rw [if_pos h2]
        refine ⟨h2, fun j hj => ?_⟩
        rcases hq : P j with _ | _
        · rfl
        · exfalso
          have : ∀ n, j < n → fsN P n < n := by
            intro n
            induction n with
            | zero => intro h; omega
            | succ n ih =>
              intro hn
              unfold fsN
              by_cases e : j = n
              · subst e
                split
                · omega
                · first | omega | (rw [if_pos hq]; omega)
              · have := ih (by omega)
                rw [if_pos this]
                omega
          exact h1 (this k hj)
      · rw [if_neg h2] at h
        omega
def idAt (m : Nat → mS) (id : Int32) (k : Nat) : Nat := fsN (fun i => decide (nI (m i).1 = id)) k
/-- the rank: how many stand before -/
abbrev befM (a b : mS) : Prop := b.2.1 < a.2.1 ∨ (a.2.1 = b.2.1 ∧ a.1 < b.1)
def rkM (m : Nat → mS) (r : Nat) : Nat → Nat
  | 0 => 0
  | i + 1 => if befM (m i) (m r) then rkM m r i + 1 else rkM m r i
theorem rkM_le (m : Nat → mS) (r : Nat) : ∀ k, rkM m r k ≤ k
  | 0 => Nat.le_refl 0
  | k + 1 => by
    have h := rkM_le m r k
    unfold rkM
    split <;> omega
def rankAt (m : Nat → mS) (rank : Int32) (k : Nat) : Nat := fsN (fun i => decide (nI (rkM m i k) = rank)) k
/-- taken out at r: moved behind the others -/
def shI (r k i : Nat) : Nat := if i < r then i else if i + 1 < k then i + 1 else if i + 1 = k then r else i
theorem shI_8 {r k i : Nat} (hr : r < 8) (hk : k ≤ 8) (hi : i < 8) : shI r k i < 8 := by
  unfold shI
  split
  · omega
  · split
    · omega
    · split <;> omega
theorem shI_inj {r k i j : Nat} (hr : r < k) (h : shI r k i = shI r k j) : i = j := by
  unfold shI at h
  repeat' split at h
  all_goals omega
theorem shI_low {r k i : Nat} (h : k ≤ r + 1) : shI r k i = i := by
  unfold shI
  split
  · rfl
  · rw [if_neg (by omega)]
    split
    · omega
    · rfl
theorem shI_at {r k : Nat} (h : r < k) : shI r k (k - 1) = r := by
  unfold shI
  by_cases h1 : k - 1 < r
  · omega
  · rw [if_neg h1, if_neg (by omega), if_pos (by omega)]
theorem shI_beyond {r k i : Nat} (h : k ≤ i) : shI r k i = i := by
  unfold shI
  split
  · rfl
  · rw [if_neg (by omega), if_neg (by omega)]
theorem shI_succ {r k i : Nat} (h : r < k) : shI r (k + 1) i = if i = k then r else if i = k - 1 then k else shI r k i := by
  unfold shI
  by_cases h1 : i < r
  · rw [if_pos h1, if_neg (by omega), if_neg (by omega), if_pos h1]
  · rw [if_neg h1, if_neg h1]
    by_cases h2 : i = k
    · rw [if_pos h2, if_neg (by omega), if_pos (by omega)]
    · rw [if_neg h2]
      by_cases h3 : i = k - 1
      · rw [if_pos h3, if_pos (by omega)]
        omega
      · rw [if_neg h3]
        by_cases h4 : i + 1 < k
        · rw [if_pos (by omega), if_pos h4]
        · rw [if_neg (by omega), if_neg (by omega), if_neg h4, if_neg (by omega)]
theorem xQm_sh {F : xF} {q r k : Nat} {p : Nat → Nat} {m : Nat → mS} (h : xQm F q p m) (hr : r < k) (hk : k ≤ 8) : xQm F q (fun i => p (shI r k i)) (fun i => m (shI r k i)) :=
  ⟨fun i hi => h.1 _ (shI_8 (by omega) hk hi), fun i hi j hj e => shI_inj hr (h.2.1 _ (shI_8 (by omega) hk hi) _ (shI_8 (by omega) hk hj) e), fun i hi => h.2.2 _ (shI_8 (by omega) hk hi)⟩

theorem shR_step {q r i : Nat} {p : Nat → Nat} {f1 : Nat → Value} {j : Nat} (kf : ∀ j, j < 8 → f1 j = .ref (q + 2 + 3 * p (shI r i j))) (hr : r < i) (hj : j < 8) : updV (updV f1 (i - 1) (.ref (q + 2 + 3 * p i))) i (.ref (q + 2 + 3 * p r)) j = .ref (q + 2 + 3 * p (shI r (i + 1) j)) := by
  rw [shI_succ hr]
  by_cases h1 : j = i
  · rw [if_pos h1, h1]
    exact if_pos rfl
  · rw [if_neg h1]
    by_cases h2 : j = i - 1
    · rw [if_pos h2, h2]
      exact (if_neg (by omega)).trans (if_pos rfl)
    · rw [if_neg h2, ← kf j hj]
      exact (if_neg h1).trans (if_neg h2)
theorem cpy_step (mo m : Nat → mS) (i j : Nat) : updA (fun i9 => if i9 < i then mo i9 else m i9) i (mo i) j = (fun i9 => if i9 < i + 1 then mo i9 else m i9) j := by
  show (if j = i then mo i else if j < i then mo j else m j) = if j < i + 1 then mo j else m j
  by_cases h1 : j = i
  · rw [if_pos h1, if_pos (by omega), h1]
  · rw [if_neg h1]
    by_cases h2 : j < i
    · rw [if_pos h2, if_pos (by omega)]
    · rw [if_neg h2, if_neg (by omega)]

theorem d_Queue_isFull_0 : decode prog_9_method_3_code 0 = .ok (.aload_n 0, 1) := by decide +kernel
theorem d_Queue_isFull_1 : decode prog_9_method_3_code 1 = .ok (.getfield 18, 3) := by decide +kernel
theorem d_Queue_isFull_4 : decode prog_9_method_3_code 4 = .ok (.bipush 8, 2) := by decide +kernel
theorem d_Queue_isFull_6 : decode prog_9_method_3_code 6 = .ok (.if_icmp .lt 7, 3) := by decide +kernel
theorem d_Queue_isFull_9 : decode prog_9_method_3_code 9 = .ok (.iconst 1, 1) := by decide +kernel
theorem d_Queue_isFull_10 : decode prog_9_method_3_code 10 = .ok (.goto 4, 3) := by decide +kernel
theorem d_Queue_isFull_13 : decode prog_9_method_3_code 13 = .ok (.iconst 0, 1) := by decide +kernel
theorem d_Queue_isFull_14 : decode prog_9_method_3_code 14 = .ok (.ireturn, 1) := by decide +kernel
set_option maxHeartbeats 4000000 in
set_option maxRecDepth 20000 in
theorem c_Queue_isFull {P : xP} {F : xF} {z : Nat} {q : Nat} {k : Nat} {nx : Nat} {p : Nat → Nat} {m : Nat → mS} (hq : xQp F (q) (k) (nx) (p) (m))  : xM P xy_Queue_isFull [.ref q] F (z) 0 0 (fun r9 F9 z9 => r9 = some (.int (xb (8 ≤ k))) ∧ F9 = F ∧ z9 = z) := by
  refine xM_i .boolean rfl (Nat.le_of_ble_eq_true rfl) (L0 := [some (.ref q)]) rfl rfl fun Θ hC hret => ?_
  obtain ⟨h0, hk, ⟨f, h1, hf⟩, hm⟩ := id hq
  have hk8 := hk.1
  refine x_aload_n hC d_Queue_isFull_0 rfl rfl ?_
  refine x_getf hC kf_Queue_18 h0 rfl d_Queue_isFull_1 ?_
  refine x_bipush hC d_Queue_isFull_4 (v := nI 8) (by decide) ?_
  refine x_icmpN_lt hC d_Queue_isFull_6 (tgt := 13) (by decide) (by omega) (by omega) (fun c_6 => ?_) (fun c_6 => ?_)
  · skip
    refine x_iconst hC d_Queue_isFull_13 (v := nI 0) (by decide) ?_
    exact hret _ _ _ _ _ _ _ d_Queue_isFull_14 (by decide) (by decide) rfl (⟨congrArg (fun q => some (Value.int q)) (xb_f0 (by omega)), rfl, rfl⟩)
  · skip
    refine x_iconst hC d_Queue_isFull_9 (v := nI 1) (by decide) ?_
    refine x_goto hC d_Queue_isFull_10 (tgt := 14) (by decide) ?_
    exact hret _ _ _ _ _ _ _ d_Queue_isFull_14 (by decide) (by decide) rfl (⟨congrArg (fun q => some (Value.int q)) (xb_t1 (by omega)), rfl, rfl⟩)

theorem d_Queue_rankFor_0 : decode prog_9_method_8_code 0 = .ok (.iconst 0, 1) := by decide +kernel
theorem d_Queue_rankFor_1 : decode prog_9_method_8_code 1 = .ok (.istore_n 2, 1) := by decide +kernel
theorem d_Queue_rankFor_2 : decode prog_9_method_8_code 2 = .ok (.iconst 0, 1) := by decide +kernel
theorem d_Queue_rankFor_3 : decode prog_9_method_8_code 3 = .ok (.istore_n 3, 1) := by decide +kernel
theorem d_Queue_rankFor_4 : decode prog_9_method_8_code 4 = .ok (.iload_n 3, 1) := by decide +kernel
theorem d_Queue_rankFor_5 : decode prog_9_method_8_code 5 = .ok (.aload_n 0, 1) := by decide +kernel
theorem d_Queue_rankFor_6 : decode prog_9_method_8_code 6 = .ok (.getfield 18, 3) := by decide +kernel
theorem d_Queue_rankFor_9 : decode prog_9_method_8_code 9 = .ok (.if_icmp .ge 25, 3) := by decide +kernel
theorem d_Queue_rankFor_12 : decode prog_9_method_8_code 12 = .ok (.aload_n 0, 1) := by decide +kernel
theorem d_Queue_rankFor_13 : decode prog_9_method_8_code 13 = .ok (.getfield 11, 3) := by decide +kernel
theorem d_Queue_rankFor_16 : decode prog_9_method_8_code 16 = .ok (.iload_n 3, 1) := by decide +kernel
theorem d_Queue_rankFor_17 : decode prog_9_method_8_code 17 = .ok (.aaload, 1) := by decide +kernel
theorem d_Queue_rankFor_18 : decode prog_9_method_8_code 18 = .ok (.aload_n 1, 1) := by decide +kernel
theorem d_Queue_rankFor_19 : decode prog_9_method_8_code 19 = .ok (.invokevirtual 52, 3) := by decide +kernel
theorem d_Queue_rankFor_22 : decode prog_9_method_8_code 22 = .ok (.ifCond .eq 6, 3) := by decide +kernel
theorem d_Queue_rankFor_25 : decode prog_9_method_8_code 25 = .ok (.iinc 2 1, 3) := by decide +kernel
theorem d_Queue_rankFor_28 : decode prog_9_method_8_code 28 = .ok (.iinc 3 1, 3) := by decide +kernel
theorem d_Queue_rankFor_31 : decode prog_9_method_8_code 31 = .ok (.goto (-27), 3) := by decide +kernel
theorem d_Queue_rankFor_34 : decode prog_9_method_8_code 34 = .ok (.iload_n 2, 1) := by decide +kernel
theorem d_Queue_rankFor_35 : decode prog_9_method_8_code 35 = .ok (.ireturn, 1) := by decide +kernel
set_option maxHeartbeats 4000000 in
set_option maxRecDepth 20000 in
theorem c_Queue_rankFor {P : xP} {F : xF} {z : Nat} {q : Nat} {k : Nat} {nx : Nat} {p : Nat → Nat} {m : Nat → mS} {r : Nat} (hq : xQp F (q) (k) (nx) (p) (m)) (hr : r < 8) : xM P xy_Queue_rankFor [.ref q, .ref (q + 2 + 3 * p r)] F (z) 0 0 (fun r9 F9 z9 => r9 = some (.int (nI (rkM m r k))) ∧ F9 = F ∧ z9 = z) := by
  refine xM_i .int rfl (Nat.le_of_ble_eq_true rfl) (L0 := [some (.ref q), some (.ref (q + 2 + 3 * p r)), none, none]) rfl rfl fun Θ hC hret => ?_
  obtain ⟨h0, hk, ⟨f, h1, hf⟩, hm⟩ := id hq
  have hk8 := hk.1
  have hmr := hm.2.2 r hr
  refine x_iconst hC d_Queue_rankFor_0 (v := nI 0) (by decide) ?_
  refine x_istore_n hC d_Queue_rankFor_1 rfl (Nat.le_of_ble_eq_true rfl) (L1 := [some (.ref q), some (.ref (q + 2 + 3 * p r)), some (.int (nI 0)), none]) rfl ?_
  refine x_iconst hC d_Queue_rankFor_2 (v := nI 0) (by decide) ?_
  refine x_istore_n hC d_Queue_rankFor_3 rfl (Nat.le_of_ble_eq_true rfl) (L1 := [some (.ref q), some (.ref (q + 2 + 3 * p r)), some (.int (nI 0)), some (.int (nI 0))]) rfl ?_
  have loop_4 : ∀ (m9 : Nat) (i : Nat) (n : Nat), (F (q) = some (.inl (5, [.ref (q + 1), .int (nI (k)), .int (nI (nx))]))) → (F (q + 1) = some (.inr (5, 8, f))) → (xMs F (q + 2 + 3 * p r) ((m r).1) ((m r).2.1) ((m r).2.2.1) ((m r).2.2.2)) → (i ≤ k) → (n = rkM m r i) → (k - i < m9) → xX P Θ 4 [some (.ref q), some (.ref (q + 2 + 3 * p r)), some (.int (nI (n))), some (.int (nI (i)))] [] F (z) 0 0 := by
    intro m9
    induction m9 with
    | zero => intros; omega
    | succ m9 ih_4 =>
      intro  i n h0 h1 hmr hi kr hm_4
      have hn9 : n ≤ i := by rw [kr]; exact rkM_le m r i
      refine x_iload_n hC d_Queue_rankFor_4 rfl rfl ?_
      refine x_aload_n hC d_Queue_rankFor_5 rfl rfl ?_
      refine x_getf hC kf_Queue_18 h0 rfl d_Queue_rankFor_6 ?_
      refine x_icmpN_ge hC d_Queue_rankFor_9 (tgt := 34) (by decide) (by omega) (by omega) (fun c_9 => ?_) (fun c_9 => ?_)
      · skip
        refine x_iload_n hC d_Queue_rankFor_34 rfl rfl ?_
        exact hret _ _ _ _ _ _ _ d_Queue_rankFor_35 (by decide) (by decide) rfl (⟨by rw [kr, show i = k by omega], rfl, rfl⟩)
      · skip
        refine x_aload_n hC d_Queue_rankFor_12 rfl rfl ?_
        refine x_getf hC kf_Queue_11 h0 rfl d_Queue_rankFor_13 ?_
        refine x_iload_n hC d_Queue_rankFor_16 rfl rfl ?_
        refine x_aald hC h1 (by decide) rfl (j := i) ⟨rfl, by omega, by omega⟩ (x := .ref (q + 2 + 3 * p i)) (hf i (by omega)) rfl d_Queue_rankFor_17 ?_
        have hmi := hm.2.2 i (by omega)
        refine x_aload_n hC d_Queue_rankFor_18 rfl rfl ?_
        refine x_callV hC kv_Queue_52 (c_Message_isBefore (hm := hmi) (ho := hmr)) hmi.1 rfl rfl (by decide) rfl rfl rfl (Nat.le_of_ble_eq_true rfl) (by decide) d_Queue_rankFor_19 (fun r9 F9 z9 hp9 => ?_)
        obtain ⟨rfl, h9b, h9c⟩ := hp9
        rw [h9b, h9c]
        clear h9b h9c F9 z9
        refine x_ifB_eq hC d_Queue_rankFor_22 (tgt := 28) (by decide) (fun c_22 => ?_) (fun c_22 => ?_)
        · skip
          refine x_iinc hC d_Queue_rankFor_28 rfl (v := (nI (i + 1))) (x_incN 1) (Nat.le_of_ble_eq_true rfl) (L1 := [some (.ref q), some (.ref (q + 2 + 3 * p r)), some (.int (nI (n))), some (.int (nI (i + 1)))]) rfl ?_
          refine x_goto hC d_Queue_rankFor_31 (tgt := 4) (by decide) ?_
          exact ih_4  (i + 1) (n) h0 h1 hmr (by omega) (by first | (rw [kr, rkM, if_pos c_22]; done) | (rw [kr, rkM, if_neg c_22])) (by omega)
        · skip
          refine x_iinc hC d_Queue_rankFor_25 rfl (v := (nI (n + 1))) (x_incN 1) (Nat.le_of_ble_eq_true rfl) (L1 := [some (.ref q), some (.ref (q + 2 + 3 * p r)), some (.int (nI (n + 1))), some (.int (nI (i)))]) rfl ?_
          refine x_iinc hC d_Queue_rankFor_28 rfl (v := (nI (i + 1))) (x_incN 1) (Nat.le_of_ble_eq_true rfl) (L1 := [some (.ref q), some (.ref (q + 2 + 3 * p r)), some (.int (nI (n + 1))), some (.int (nI (i + 1)))]) rfl ?_
          refine x_goto hC d_Queue_rankFor_31 (tgt := 4) (by decide) ?_
          exact ih_4  (i + 1) (n + 1) h0 h1 hmr (by omega) (by first | (rw [kr, rkM, if_pos c_22]; done) | (rw [kr, rkM, if_neg c_22])) (by omega)
  exact loop_4 (k - 0 + 1)  (0) (0) h0 h1 hmr (by omega) (rfl) (by omega)

theorem d_Queue_byId_0 : decode prog_9_method_6_code 0 = .ok (.iconst 0, 1) := by decide +kernel
theorem d_Queue_byId_1 : decode prog_9_method_6_code 1 = .ok (.istore_n 2, 1) := by decide +kernel
theorem d_Queue_byId_2 : decode prog_9_method_6_code 2 = .ok (.iload_n 2, 1) := by decide +kernel
theorem d_Queue_byId_3 : decode prog_9_method_6_code 3 = .ok (.aload_n 0, 1) := by decide +kernel
theorem d_Queue_byId_4 : decode prog_9_method_6_code 4 = .ok (.getfield 18, 3) := by decide +kernel
theorem d_Queue_byId_7 : decode prog_9_method_6_code 7 = .ok (.if_icmp .ge 29, 3) := by decide +kernel
theorem d_Queue_byId_10 : decode prog_9_method_6_code 10 = .ok (.aload_n 0, 1) := by decide +kernel
theorem d_Queue_byId_11 : decode prog_9_method_6_code 11 = .ok (.getfield 11, 3) := by decide +kernel
theorem d_Queue_byId_14 : decode prog_9_method_6_code 14 = .ok (.iload_n 2, 1) := by decide +kernel
theorem d_Queue_byId_15 : decode prog_9_method_6_code 15 = .ok (.aaload, 1) := by decide +kernel
theorem d_Queue_byId_16 : decode prog_9_method_6_code 16 = .ok (.getfield 42, 3) := by decide +kernel
theorem d_Queue_byId_19 : decode prog_9_method_6_code 19 = .ok (.iload_n 1, 1) := by decide +kernel
theorem d_Queue_byId_20 : decode prog_9_method_6_code 20 = .ok (.if_icmp .ne 10, 3) := by decide +kernel
theorem d_Queue_byId_23 : decode prog_9_method_6_code 23 = .ok (.aload_n 0, 1) := by decide +kernel
theorem d_Queue_byId_24 : decode prog_9_method_6_code 24 = .ok (.getfield 11, 3) := by decide +kernel
theorem d_Queue_byId_27 : decode prog_9_method_6_code 27 = .ok (.iload_n 2, 1) := by decide +kernel
theorem d_Queue_byId_28 : decode prog_9_method_6_code 28 = .ok (.aaload, 1) := by decide +kernel
theorem d_Queue_byId_29 : decode prog_9_method_6_code 29 = .ok (.areturn, 1) := by decide +kernel
theorem d_Queue_byId_30 : decode prog_9_method_6_code 30 = .ok (.iinc 2 1, 3) := by decide +kernel
theorem d_Queue_byId_33 : decode prog_9_method_6_code 33 = .ok (.goto (-31), 3) := by decide +kernel
theorem d_Queue_byId_36 : decode prog_9_method_6_code 36 = .ok (.aconst_null, 1) := by decide +kernel
theorem d_Queue_byId_37 : decode prog_9_method_6_code 37 = .ok (.areturn, 1) := by decide +kernel
set_option maxHeartbeats 4000000 in
set_option maxRecDepth 20000 in
theorem c_Queue_byId {P : xP} {F : xF} {z : Nat} {q : Nat} {k : Nat} {nx : Nat} {p : Nat → Nat} {m : Nat → mS} {idv : Int32} (hq : xQp F (q) (k) (nx) (p) (m))  : xM P xy_Queue_byId [.ref q, .int idv] F (z) 0 0 (fun r9 F9 z9 => r9 = some (if idAt m idv k < k then .ref (q + 2 + 3 * p (idAt m idv k)) else .null) ∧ F9 = F ∧ z9 = z) := by
  refine xM_a rfl (Nat.le_of_ble_eq_true rfl) (L0 := [some (.ref q), some (.int idv), none]) rfl rfl (by simp) fun Θ hC hret => ?_
  obtain ⟨h0, hk, ⟨f, h1, hf⟩, hm⟩ := id hq
  have hk8 := hk.1
  refine x_iconst hC d_Queue_byId_0 (v := nI 0) (by decide) ?_
  refine x_istore_n hC d_Queue_byId_1 rfl (Nat.le_of_ble_eq_true rfl) (L1 := [some (.ref q), some (.int idv), some (.int (nI 0))]) rfl ?_
  have loop_2 : ∀ (m9 : Nat) (i : Nat), (F (q) = some (.inl (5, [.ref (q + 1), .int (nI (k)), .int (nI (nx))]))) → (F (q + 1) = some (.inr (5, 8, f))) → (i ≤ k) → (∀ j, j < i → decide (nI (m j).1 = idv) = false) → (k - i < m9) → xX P Θ 2 [some (.ref q), some (.int idv), some (.int (nI (i)))] [] F (z) 0 0 := by
    intro m9
    induction m9 with
    | zero => intros; omega
    | succ m9 ih_2 =>
      intro  i h0 h1 hi kr hm_2
      refine x_iload_n hC d_Queue_byId_2 rfl rfl ?_
      refine x_aload_n hC d_Queue_byId_3 rfl rfl ?_
      refine x_getf hC kf_Queue_18 h0 rfl d_Queue_byId_4 ?_
      refine x_icmpN_ge hC d_Queue_byId_7 (tgt := 36) (by decide) (by omega) (by omega) (fun c_7 => ?_) (fun c_7 => ?_)
      · skip
        refine x_null hC d_Queue_byId_36 ?_
        refine hret _ _ _ _ _ _ _ d_Queue_byId_37 (by decide) (by decide) (Or.inl rfl) ?_
        have hid : idAt m idv k = k := fsN_none k (fun j hj => kr j (by omega))
        exact ⟨by rw [hid, if_neg (by omega)], rfl, rfl⟩
      · skip
        refine x_aload_n hC d_Queue_byId_10 rfl rfl ?_
        refine x_getf hC kf_Queue_11 h0 rfl d_Queue_byId_11 ?_
        refine x_iload_n hC d_Queue_byId_14 rfl rfl ?_
        refine x_aald hC h1 (by decide) rfl (j := i) ⟨rfl, by omega, by omega⟩ (x := .ref (q + 2 + 3 * p i)) (hf i (by omega)) rfl d_Queue_byId_15 ?_
        have hmi := hm.2.2 i (by omega)
        refine x_getf hC kf_Queue_42 hmi.1 rfl d_Queue_byId_16 ?_
        refine x_iload_n hC d_Queue_byId_19 rfl rfl ?_
        refine x_icmp_ne hC d_Queue_byId_20 (tgt := 30) (by decide) (fun c_20 => ?_) (fun c_20 => ?_)
        · skip
          refine x_iinc hC d_Queue_byId_30 rfl (v := (nI (i + 1))) (x_incN 1) (Nat.le_of_ble_eq_true rfl) (L1 := [some (.ref q), some (.int idv), some (.int (nI (i + 1)))]) rfl ?_
          refine x_goto hC d_Queue_byId_33 (tgt := 2) (by decide) ?_
          exact ih_2  (i + 1) h0 h1 (by omega) (fun j hj => (Nat.lt_or_ge j i).elim (kr j) (fun q9 => by rw [show j = i by omega]; exact decide_eq_false c_20)) (by omega)
        · skip
          refine x_aload_n hC d_Queue_byId_23 rfl rfl ?_
          refine x_getf hC kf_Queue_11 h0 rfl d_Queue_byId_24 ?_
          refine x_iload_n hC d_Queue_byId_27 rfl rfl ?_
          refine x_aald hC h1 (by decide) rfl (j := i) ⟨rfl, by omega, by omega⟩ (x := .ref (q + 2 + 3 * p i)) (hf i (by omega)) rfl d_Queue_byId_28 ?_
          refine hret _ _ _ _ _ _ _ d_Queue_byId_29 (by decide) (by decide) (Or.inr ⟨_, rfl⟩) ?_
          have hid : idAt m idv k = i := fsN_hit (decide_eq_true (c_20)) kr k c_7
          exact ⟨by rw [hid, if_pos (by omega)], rfl, rfl⟩
  exact loop_2 (k - 0 + 1)  (0) h0 h1 (by omega) (fun _ hj => absurd hj (by omega)) (by omega)

theorem d_Queue_byRank_0 : decode prog_9_method_7_code 0 = .ok (.iconst 0, 1) := by decide +kernel
theorem d_Queue_byRank_1 : decode prog_9_method_7_code 1 = .ok (.istore_n 2, 1) := by decide +kernel
theorem d_Queue_byRank_2 : decode prog_9_method_7_code 2 = .ok (.iload_n 2, 1) := by decide +kernel
theorem d_Queue_byRank_3 : decode prog_9_method_7_code 3 = .ok (.aload_n 0, 1) := by decide +kernel
theorem d_Queue_byRank_4 : decode prog_9_method_7_code 4 = .ok (.getfield 18, 3) := by decide +kernel
theorem d_Queue_byRank_7 : decode prog_9_method_7_code 7 = .ok (.if_icmp .ge 30, 3) := by decide +kernel
theorem d_Queue_byRank_10 : decode prog_9_method_7_code 10 = .ok (.aload_n 0, 1) := by decide +kernel
theorem d_Queue_byRank_11 : decode prog_9_method_7_code 11 = .ok (.aload_n 0, 1) := by decide +kernel
theorem d_Queue_byRank_12 : decode prog_9_method_7_code 12 = .ok (.getfield 11, 3) := by decide +kernel
theorem d_Queue_byRank_15 : decode prog_9_method_7_code 15 = .ok (.iload_n 2, 1) := by decide +kernel
theorem d_Queue_byRank_16 : decode prog_9_method_7_code 16 = .ok (.aaload, 1) := by decide +kernel
theorem d_Queue_byRank_17 : decode prog_9_method_7_code 17 = .ok (.invokevirtual 48, 3) := by decide +kernel
theorem d_Queue_byRank_20 : decode prog_9_method_7_code 20 = .ok (.iload_n 1, 1) := by decide +kernel
theorem d_Queue_byRank_21 : decode prog_9_method_7_code 21 = .ok (.if_icmp .ne 10, 3) := by decide +kernel
theorem d_Queue_byRank_24 : decode prog_9_method_7_code 24 = .ok (.aload_n 0, 1) := by decide +kernel
theorem d_Queue_byRank_25 : decode prog_9_method_7_code 25 = .ok (.getfield 11, 3) := by decide +kernel
theorem d_Queue_byRank_28 : decode prog_9_method_7_code 28 = .ok (.iload_n 2, 1) := by decide +kernel
theorem d_Queue_byRank_29 : decode prog_9_method_7_code 29 = .ok (.aaload, 1) := by decide +kernel
theorem d_Queue_byRank_30 : decode prog_9_method_7_code 30 = .ok (.areturn, 1) := by decide +kernel
theorem d_Queue_byRank_31 : decode prog_9_method_7_code 31 = .ok (.iinc 2 1, 3) := by decide +kernel
theorem d_Queue_byRank_34 : decode prog_9_method_7_code 34 = .ok (.goto (-32), 3) := by decide +kernel
theorem d_Queue_byRank_37 : decode prog_9_method_7_code 37 = .ok (.aconst_null, 1) := by decide +kernel
theorem d_Queue_byRank_38 : decode prog_9_method_7_code 38 = .ok (.areturn, 1) := by decide +kernel
set_option maxHeartbeats 4000000 in
set_option maxRecDepth 20000 in
theorem c_Queue_byRank {P : xP} {F : xF} {z : Nat} {q : Nat} {k : Nat} {nx : Nat} {p : Nat → Nat} {m : Nat → mS} {rank : Int32} (hq : xQp F (q) (k) (nx) (p) (m))  : xM P xy_Queue_byRank [.ref q, .int rank] F (z) 0 0 (fun r9 F9 z9 => r9 = some (if rankAt m rank k < k then .ref (q + 2 + 3 * p (rankAt m rank k)) else .null) ∧ F9 = F ∧ z9 = z) := by
  refine xM_a rfl (Nat.le_of_ble_eq_true rfl) (L0 := [some (.ref q), some (.int rank), none]) rfl rfl (by simp) fun Θ hC hret => ?_
  obtain ⟨h0, hk, ⟨f, h1, hf⟩, hm⟩ := id hq
  have hk8 := hk.1
  refine x_iconst hC d_Queue_byRank_0 (v := nI 0) (by decide) ?_
  refine x_istore_n hC d_Queue_byRank_1 rfl (Nat.le_of_ble_eq_true rfl) (L1 := [some (.ref q), some (.int rank), some (.int (nI 0))]) rfl ?_
  have loop_2 : ∀ (m9 : Nat) (i : Nat), (xQp F (q) (k) (nx) (p) (m)) → (F (q + 1) = some (.inr (5, 8, f))) → (i ≤ k) → (∀ j, j < i → decide (nI (rkM m j k) = rank) = false) → (k - i < m9) → xX P Θ 2 [some (.ref q), some (.int rank), some (.int (nI (i)))] [] F (z) 0 0 := by
    intro m9
    induction m9 with
    | zero => intros; omega
    | succ m9 ih_2 =>
      intro  i hq h1 hi kr hm_2
      refine x_iload_n hC d_Queue_byRank_2 rfl rfl ?_
      refine x_aload_n hC d_Queue_byRank_3 rfl rfl ?_
      refine x_getf hC kf_Queue_18 hq.1 rfl d_Queue_byRank_4 ?_
      refine x_icmpN_ge hC d_Queue_byRank_7 (tgt := 37) (by decide) (by omega) (by omega) (fun c_7 => ?_) (fun c_7 => ?_)
      · skip
        refine x_null hC d_Queue_byRank_37 ?_
        refine hret _ _ _ _ _ _ _ d_Queue_byRank_38 (by decide) (by decide) (Or.inl rfl) ?_
        have hid : rankAt m rank k = k := fsN_none k (fun j hj => kr j (by omega))
        exact ⟨by rw [hid, if_neg (by omega)], rfl, rfl⟩
      · skip
        refine x_aload_n hC d_Queue_byRank_10 rfl rfl ?_
        refine x_aload_n hC d_Queue_byRank_11 rfl rfl ?_
        refine x_getf hC kf_Queue_11 hq.1 rfl d_Queue_byRank_12 ?_
        refine x_iload_n hC d_Queue_byRank_15 rfl rfl ?_
        refine x_aald hC h1 (by decide) rfl (j := i) ⟨rfl, by omega, by omega⟩ (x := .ref (q + 2 + 3 * p i)) (hf i (by omega)) rfl d_Queue_byRank_16 ?_
        refine x_callV hC kv_Queue_48 (c_Queue_rankFor (hq := hq) (hr := by omega) (r := i)) hq.1 rfl rfl (by decide) rfl rfl rfl (Nat.le_of_ble_eq_true rfl) (by decide) d_Queue_byRank_17 (fun r9 F9 z9 hp9 => ?_)
        obtain ⟨rfl, h9b, h9c⟩ := hp9
        rw [h9b, h9c]
        clear h9b h9c F9 z9
        refine x_iload_n hC d_Queue_byRank_20 rfl rfl ?_
        refine x_icmp_ne hC d_Queue_byRank_21 (tgt := 31) (by decide) (fun c_21 => ?_) (fun c_21 => ?_)
        · skip
          refine x_iinc hC d_Queue_byRank_31 rfl (v := (nI (i + 1))) (x_incN 1) (Nat.le_of_ble_eq_true rfl) (L1 := [some (.ref q), some (.int rank), some (.int (nI (i + 1)))]) rfl ?_
          refine x_goto hC d_Queue_byRank_34 (tgt := 2) (by decide) ?_
          exact ih_2  (i + 1) hq h1 (by omega) (fun j hj => (Nat.lt_or_ge j i).elim (kr j) (fun q9 => by rw [show j = i by omega]; exact decide_eq_false c_21)) (by omega)
        · skip
          refine x_aload_n hC d_Queue_byRank_24 rfl rfl ?_
          refine x_getf hC kf_Queue_11 hq.1 rfl d_Queue_byRank_25 ?_
          refine x_iload_n hC d_Queue_byRank_28 rfl rfl ?_
          refine x_aald hC h1 (by decide) rfl (j := i) ⟨rfl, by omega, by omega⟩ (x := .ref (q + 2 + 3 * p i)) (hf i (by omega)) rfl d_Queue_byRank_29 ?_
          refine hret _ _ _ _ _ _ _ d_Queue_byRank_30 (by decide) (by decide) (Or.inr ⟨_, rfl⟩) ?_
          have hid : rankAt m rank k = i := fsN_hit (decide_eq_true c_21) kr k c_7
          exact ⟨by rw [hid, if_pos (by omega)], rfl, rfl⟩
  exact loop_2 (k - 0 + 1)  (0) hq h1 (by omega) (fun _ hj => absurd hj (by omega)) (by omega)

theorem d_Queue_remove_0 : decode prog_9_method_5_code 0 = .ok (.iconst 1, 1) := by decide +kernel
theorem d_Queue_remove_1 : decode prog_9_method_5_code 1 = .ok (.istore_n 2, 1) := by decide +kernel
theorem d_Queue_remove_2 : decode prog_9_method_5_code 2 = .ok (.iload_n 2, 1) := by decide +kernel
theorem d_Queue_remove_3 : decode prog_9_method_5_code 3 = .ok (.aload_n 0, 1) := by decide +kernel
theorem d_Queue_remove_4 : decode prog_9_method_5_code 4 = .ok (.getfield 18, 3) := by decide +kernel
theorem d_Queue_remove_7 : decode prog_9_method_5_code 7 = .ok (.if_icmp .ge 42, 3) := by decide +kernel
theorem d_Queue_remove_10 : decode prog_9_method_5_code 10 = .ok (.aload_n 0, 1) := by decide +kernel
theorem d_Queue_remove_11 : decode prog_9_method_5_code 11 = .ok (.getfield 11, 3) := by decide +kernel
theorem d_Queue_remove_14 : decode prog_9_method_5_code 14 = .ok (.iload_n 2, 1) := by decide +kernel
theorem d_Queue_remove_15 : decode prog_9_method_5_code 15 = .ok (.iconst 1, 1) := by decide +kernel
theorem d_Queue_remove_16 : decode prog_9_method_5_code 16 = .ok (.isub, 1) := by decide +kernel
theorem d_Queue_remove_17 : decode prog_9_method_5_code 17 = .ok (.aaload, 1) := by decide +kernel
theorem d_Queue_remove_18 : decode prog_9_method_5_code 18 = .ok (.aload_n 1, 1) := by decide +kernel
theorem d_Queue_remove_19 : decode prog_9_method_5_code 19 = .ok (.if_acmp .ne 24, 3) := by decide +kernel
theorem d_Queue_remove_22 : decode prog_9_method_5_code 22 = .ok (.aload_n 0, 1) := by decide +kernel
theorem d_Queue_remove_23 : decode prog_9_method_5_code 23 = .ok (.getfield 11, 3) := by decide +kernel
theorem d_Queue_remove_26 : decode prog_9_method_5_code 26 = .ok (.iload_n 2, 1) := by decide +kernel
theorem d_Queue_remove_27 : decode prog_9_method_5_code 27 = .ok (.iconst 1, 1) := by decide +kernel
theorem d_Queue_remove_28 : decode prog_9_method_5_code 28 = .ok (.isub, 1) := by decide +kernel
theorem d_Queue_remove_29 : decode prog_9_method_5_code 29 = .ok (.aload_n 0, 1) := by decide +kernel
theorem d_Queue_remove_30 : decode prog_9_method_5_code 30 = .ok (.getfield 11, 3) := by decide +kernel
theorem d_Queue_remove_33 : decode prog_9_method_5_code 33 = .ok (.iload_n 2, 1) := by decide +kernel
theorem d_Queue_remove_34 : decode prog_9_method_5_code 34 = .ok (.aaload, 1) := by decide +kernel
theorem d_Queue_remove_35 : decode prog_9_method_5_code 35 = .ok (.aastore, 1) := by decide +kernel
theorem d_Queue_remove_36 : decode prog_9_method_5_code 36 = .ok (.aload_n 0, 1) := by decide +kernel
theorem d_Queue_remove_37 : decode prog_9_method_5_code 37 = .ok (.getfield 11, 3) := by decide +kernel
theorem d_Queue_remove_40 : decode prog_9_method_5_code 40 = .ok (.iload_n 2, 1) := by decide +kernel
theorem d_Queue_remove_41 : decode prog_9_method_5_code 41 = .ok (.aload_n 1, 1) := by decide +kernel
theorem d_Queue_remove_42 : decode prog_9_method_5_code 42 = .ok (.aastore, 1) := by decide +kernel
theorem d_Queue_remove_43 : decode prog_9_method_5_code 43 = .ok (.iinc 2 1, 3) := by decide +kernel
theorem d_Queue_remove_46 : decode prog_9_method_5_code 46 = .ok (.goto (-44), 3) := by decide +kernel
theorem d_Queue_remove_49 : decode prog_9_method_5_code 49 = .ok (.aload_n 0, 1) := by decide +kernel
theorem d_Queue_remove_50 : decode prog_9_method_5_code 50 = .ok (.dup, 1) := by decide +kernel
theorem d_Queue_remove_51 : decode prog_9_method_5_code 51 = .ok (.getfield 18, 3) := by decide +kernel
theorem d_Queue_remove_54 : decode prog_9_method_5_code 54 = .ok (.iconst 1, 1) := by decide +kernel
theorem d_Queue_remove_55 : decode prog_9_method_5_code 55 = .ok (.isub, 1) := by decide +kernel
theorem d_Queue_remove_56 : decode prog_9_method_5_code 56 = .ok (.putfield 18, 3) := by decide +kernel
theorem d_Queue_remove_59 : decode prog_9_method_5_code 59 = .ok (.return_, 1) := by decide +kernel
set_option maxHeartbeats 4000000 in
set_option maxRecDepth 20000 in
theorem c_Queue_remove {P : xP} {F : xF} {z : Nat} {q : Nat} {k : Nat} {nx : Nat} {p : Nat → Nat} {m : Nat → mS} {r : Nat} (hq : xQp F (q) (k) (nx) (p) (m)) (hr : r < k) : xM P xy_Queue_remove [.ref q, .ref (q + 2 + 3 * p r)] F (z) 0 0 (fun r9 F9 z9 => r9 = none ∧ z9 = z ∧ xQp F9 (q) (k - 1) (nx) ((fun i9 => p (shI r k i9))) ((fun i9 => m (shI r k i9))) ∧ (∀ a9 : Nat, (a9 < q ∨ q + 26 ≤ a9) → F9 a9 = F a9)) := by
  refine xM_v rfl (Nat.le_of_ble_eq_true rfl) (L0 := [some (.ref q), some (.ref (q + 2 + 3 * p r)), none]) rfl rfl fun Θ hC hin hret => ?_
  have hag : ∀ a9 : Nat, (a9 < q ∨ q + 26 ≤ a9) → F a9 = F a9 := fun a9 _ => rfl
  obtain ⟨h0, hk, ⟨f, h1, hf⟩, hm⟩ := id hq
  have hk8 := hk.1
  refine x_iconst hC d_Queue_remove_0 (v := nI 1) (by decide) ?_
  refine x_istore_n hC d_Queue_remove_1 rfl (Nat.le_of_ble_eq_true rfl) (L1 := [some (.ref q), some (.ref (q + 2 + 3 * p r)), some (.int (nI 1))]) rfl ?_
  have loop_2 : ∀ (m9 : Nat) (Fh2 : xF) (i : Nat) (f1 : Nat → Value), (Fh2 (q) = some (.inl (5, [.ref (q + 1), .int (nI (k)), .int (nI (nx))]))) → (Fh2 (q + 1) = some (.inr (5, 8, f1))) → (xQm Fh2 (q) (p) (m)) → (∀ a9 : Nat, (a9 < q ∨ q + 26 ≤ a9) → Fh2 a9 = F a9) → (1 ≤ i ∧ i ≤ k) → (∀ j, j < 8 → f1 j = .ref (q + 2 + 3 * p (shI r i j))) → (k - i < m9) → xX P Θ 2 [some (.ref q), some (.ref (q + 2 + 3 * p r)), some (.int (nI (i)))] [] Fh2 (z) 0 0 := by
    intro m9
    induction m9 with
    | zero => intros; omega
    | succ m9 ih_2 =>
      intro Fh2 i f1 h0 h1 hm hag hi kf hm_2
      refine x_iload_n hC d_Queue_remove_2 rfl rfl ?_
      refine x_aload_n hC d_Queue_remove_3 rfl rfl ?_
      refine x_getf hC kf_Queue_18 h0 rfl d_Queue_remove_4 ?_
      refine x_icmpN_ge hC d_Queue_remove_7 (tgt := 49) (by decide) (by omega) (by omega) (fun c_7 => ?_) (fun c_7 => ?_)
      · skip
        refine x_aload_n hC d_Queue_remove_49 rfl rfl ?_
        refine x_dup hC d_Queue_remove_50 rfl ?_
        refine x_getf hC kf_Queue_18 h0 rfl d_Queue_remove_51 ?_
        refine x_iconst hC d_Queue_remove_54 (v := nI 1) (by decide) ?_
        refine x_isub hC d_Queue_remove_55 (v := (nI ((k) - 1))) (pk_sub (by omega)) ?_
        refine x_putf hC kf_Queue_18 h0 (Nat.le_of_ble_eq_true rfl) rfl rfl d_Queue_remove_56 (fs1 := [.ref (q + 1), .int (nI ((k) - 1)), .int (nI (nx))]) rfl ?_
        generalize e1 : xup Fh2 (q) (.inl (5, [.ref (q + 1), .int (nI ((k) - 1)), .int (nI (nx))])) = F1
        have h0 : F1 (q) = some (.inl (5, [.ref (q + 1), .int (nI ((k) - 1)), .int (nI (nx))])) := by rw [← e1]; exact xup_eq
        have h1 : F1 (q + 1) = some (.inr (5, 8, f1)) := by rw [← e1]; exact (xup_ne (by omega)).trans h1
        have hm : xQm F1 (q) (p) (m) := xQm_fr hm (fun a9 q1 q2 => by rw [← e1]; exact xup_ne (by omega))
        have hag : ∀ a9 : Nat, (a9 < q ∨ q + 26 ≤ a9) → F1 a9 = F a9 := fun a9 q0 => by rw [← e1]; exact (xup_ne (by omega)).trans (hag a9 q0)
        refine hret _ _ _ _ _ _ d_Queue_remove_59 (by decide) (by decide) ?_
        obtain rfl : i = k := by omega
        exact ⟨rfl, rfl, ⟨h0, ⟨by omega, hk.2⟩, ⟨f1, h1, kf⟩, xQm_sh hm hr hk8⟩, hag⟩
      · skip
        refine x_aload_n hC d_Queue_remove_10 rfl rfl ?_
        refine x_getf hC kf_Queue_11 h0 rfl d_Queue_remove_11 ?_
        refine x_iload_n hC d_Queue_remove_14 rfl rfl ?_
        refine x_iconst hC d_Queue_remove_15 (v := nI 1) (by decide) ?_
        refine x_isub hC d_Queue_remove_16 (v := (nI ((i) - 1))) (pk_sub (by omega)) ?_
        refine x_aald hC h1 (by decide) rfl (j := (i) - 1) ⟨rfl, by omega, by omega⟩ (x := .ref (q + 2 + 3 * p (shI r i (i - 1)))) (kf _ (by omega)) rfl d_Queue_remove_17 ?_
        refine x_aload_n hC d_Queue_remove_18 rfl rfl ?_
        refine x_acmp_ne hC d_Queue_remove_19 (tgt := 43) (by decide) (fun c_19 => ?_) (fun c_19 => ?_)
        · skip
          have hri : i ≤ r := Nat.le_of_not_lt (fun e => c_19 (by rw [shI_at e]))
          refine x_iinc hC d_Queue_remove_43 rfl (v := (nI (i + 1))) (x_incN 1) (Nat.le_of_ble_eq_true rfl) (L1 := [some (.ref q), some (.ref (q + 2 + 3 * p r)), some (.int (nI (i + 1)))]) rfl ?_
          refine x_goto hC d_Queue_remove_46 (tgt := 2) (by decide) ?_
          exact ih_2 Fh2 (i + 1) (f1) h0 h1 hm hag (by omega) (fun j hj => by first | (rw [kf j hj, shI_low (by omega), shI_low (by omega)]; done) | (rw [← eq2, ← eq1]; exact shR_step kf hri hj)) (by omega)
        · skip
          have hri : r < i := Nat.lt_of_not_le (fun e => absurd (hm.2.1 (i - 1) (by omega) r (by omega) (by rw [shI_low (by omega)] at c_19; omega)) (by omega))
          have hmi := hm.2.2 i (by omega)
          have hmr := hm.2.2 r (by omega)
          refine x_aload_n hC d_Queue_remove_22 rfl rfl ?_
          refine x_getf hC kf_Queue_11 h0 rfl d_Queue_remove_23 ?_
          refine x_iload_n hC d_Queue_remove_26 rfl rfl ?_
          refine x_iconst hC d_Queue_remove_27 (v := nI 1) (by decide) ?_
          refine x_isub hC d_Queue_remove_28 (v := (nI ((i) - 1))) (pk_sub (by omega)) ?_
          refine x_aload_n hC d_Queue_remove_29 rfl rfl ?_
          refine x_getf hC kf_Queue_11 h0 rfl d_Queue_remove_30 ?_
          refine x_iload_n hC d_Queue_remove_33 rfl rfl ?_
          refine x_aald hC h1 (by decide) rfl (j := i) ⟨rfl, by omega, by omega⟩ (x := .ref (q + 2 + 3 * p i)) (by rw [kf i (by omega), shI_beyond (Nat.le_refl i)]) rfl d_Queue_remove_34 ?_
          refine x_aast hC h1 (by decide) rfl hmi.1 rfl (j := (i) - 1) ⟨rfl, by omega, by omega⟩ d_Queue_remove_35 (f1 := updV f1 ((i) - 1) (.ref (q + 2 + 3 * p i))) rfl ?_
          generalize eq1 : updV f1 ((i) - 1) (.ref (q + 2 + 3 * p i)) = q1
          generalize e3 : xup Fh2 (q + 1) (.inr (5, 8, q1)) = F3
          have h0 : F3 (q) = some (.inl (5, [.ref (q + 1), .int (nI (k)), .int (nI (nx))])) := by rw [← e3]; exact (xup_ne (by omega)).trans h0
          have h1 : F3 (q + 1) = some (.inr (5, 8, q1)) := by rw [← e3]; exact xup_eq
          have hm : xQm F3 (q) (p) (m) := xQm_fr hm (fun a9 q1 q2 => by rw [← e3]; exact xup_ne (by omega))
          have hmi : xMs F3 (q + 2 + 3 * p i) ((m i).1) ((m i).2.1) ((m i).2.2.1) ((m i).2.2.2) := xMs_fr hmi (fun a9 q1 q2 => by rw [← e3]; exact xup_ne (by omega))
          have hmr : xMs F3 (q + 2 + 3 * p r) ((m r).1) ((m r).2.1) ((m r).2.2.1) ((m r).2.2.2) := xMs_fr hmr (fun a9 q1 q2 => by rw [← e3]; exact xup_ne (by omega))
          have hag : ∀ a9 : Nat, (a9 < q ∨ q + 26 ≤ a9) → F3 a9 = F a9 := fun a9 q0 => by rw [← e3]; exact (xup_ne (by omega)).trans (hag a9 q0)
          refine x_aload_n hC d_Queue_remove_36 rfl rfl ?_
          refine x_getf hC kf_Queue_11 h0 rfl d_Queue_remove_37 ?_
          refine x_iload_n hC d_Queue_remove_40 rfl rfl ?_
          refine x_aload_n hC d_Queue_remove_41 rfl rfl ?_
          refine x_aast hC h1 (by decide) rfl hmr.1 rfl (j := i) ⟨rfl, by omega, by omega⟩ d_Queue_remove_42 (f1 := updV q1 (i) (.ref (q + 2 + 3 * p r))) rfl ?_
          generalize eq2 : updV q1 (i) (.ref (q + 2 + 3 * p r)) = q2
          generalize e5 : xup F3 (q + 1) (.inr (5, 8, q2)) = F5
          have h0 : F5 (q) = some (.inl (5, [.ref (q + 1), .int (nI (k)), .int (nI (nx))])) := by rw [← e5]; exact (xup_ne (by omega)).trans h0
          have h1 : F5 (q + 1) = some (.inr (5, 8, q2)) := by rw [← e5]; exact xup_eq
          have hm : xQm F5 (q) (p) (m) := xQm_fr hm (fun a9 q1 q2 => by rw [← e5]; exact xup_ne (by omega))
          have hmi : xMs F5 (q + 2 + 3 * p i) ((m i).1) ((m i).2.1) ((m i).2.2.1) ((m i).2.2.2) := xMs_fr hmi (fun a9 q1 q2 => by rw [← e5]; exact xup_ne (by omega))
          have hmr : xMs F5 (q + 2 + 3 * p r) ((m r).1) ((m r).2.1) ((m r).2.2.1) ((m r).2.2.2) := xMs_fr hmr (fun a9 q1 q2 => by rw [← e5]; exact xup_ne (by omega))
          have hag : ∀ a9 : Nat, (a9 < q ∨ q + 26 ≤ a9) → F5 a9 = F a9 := fun a9 q0 => by rw [← e5]; exact (xup_ne (by omega)).trans (hag a9 q0)
          refine x_iinc hC d_Queue_remove_43 rfl (v := (nI (i + 1))) (x_incN 1) (Nat.le_of_ble_eq_true rfl) (L1 := [some (.ref q), some (.ref (q + 2 + 3 * p r)), some (.int (nI (i + 1)))]) rfl ?_
          refine x_goto hC d_Queue_remove_46 (tgt := 2) (by decide) ?_
          exact ih_2 F5 (i + 1) (q2) h0 h1 hm hag (by omega) (fun j hj => by first | (rw [kf j hj, shI_low (by omega), shI_low (by omega)]; done) | (rw [← eq2, ← eq1]; exact shR_step kf hri hj)) (by omega)
  exact loop_2 (k - 1 + 1) F (1) (f) h0 h1 hm hag (by omega) (fun j hj => by rw [shI_low (by omega)]; exact hf j hj) (by omega)

theorem d_Queue_add_0 : decode prog_9_method_4_code 0 = .ok (.aload_n 0, 1) := by decide +kernel
theorem d_Queue_add_1 : decode prog_9_method_4_code 1 = .ok (.invokevirtual 29, 3) := by decide +kernel
theorem d_Queue_add_4 : decode prog_9_method_4_code 4 = .ok (.ifCond .eq 6, 3) := by decide +kernel
theorem d_Queue_add_7 : decode prog_9_method_4_code 7 = .ok (.bipush (-2), 2) := by decide +kernel
theorem d_Queue_add_9 : decode prog_9_method_4_code 9 = .ok (.ireturn, 1) := by decide +kernel
theorem d_Queue_add_10 : decode prog_9_method_4_code 10 = .ok (.aload_n 0, 1) := by decide +kernel
theorem d_Queue_add_11 : decode prog_9_method_4_code 11 = .ok (.getfield 11, 3) := by decide +kernel
theorem d_Queue_add_14 : decode prog_9_method_4_code 14 = .ok (.aload_n 0, 1) := by decide +kernel
theorem d_Queue_add_15 : decode prog_9_method_4_code 15 = .ok (.getfield 18, 3) := by decide +kernel
theorem d_Queue_add_18 : decode prog_9_method_4_code 18 = .ok (.aaload, 1) := by decide +kernel
theorem d_Queue_add_19 : decode prog_9_method_4_code 19 = .ok (.astore_n 3, 1) := by decide +kernel
theorem d_Queue_add_20 : decode prog_9_method_4_code 20 = .ok (.aload_n 3, 1) := by decide +kernel
theorem d_Queue_add_21 : decode prog_9_method_4_code 21 = .ok (.getfield 33, 3) := by decide +kernel
theorem d_Queue_add_24 : decode prog_9_method_4_code 24 = .ok (.aload_n 1, 1) := by decide +kernel
theorem d_Queue_add_25 : decode prog_9_method_4_code 25 = .ok (.invokevirtual 37, 3) := by decide +kernel
theorem d_Queue_add_28 : decode prog_9_method_4_code 28 = .ok (.aload_n 3, 1) := by decide +kernel
theorem d_Queue_add_29 : decode prog_9_method_4_code 29 = .ok (.aload_n 0, 1) := by decide +kernel
theorem d_Queue_add_30 : decode prog_9_method_4_code 30 = .ok (.getfield 26, 3) := by decide +kernel
theorem d_Queue_add_33 : decode prog_9_method_4_code 33 = .ok (.putfield 42, 3) := by decide +kernel
theorem d_Queue_add_36 : decode prog_9_method_4_code 36 = .ok (.aload_n 3, 1) := by decide +kernel
theorem d_Queue_add_37 : decode prog_9_method_4_code 37 = .ok (.iload_n 2, 1) := by decide +kernel
theorem d_Queue_add_38 : decode prog_9_method_4_code 38 = .ok (.putfield 45, 3) := by decide +kernel
theorem d_Queue_add_41 : decode prog_9_method_4_code 41 = .ok (.aload_n 0, 1) := by decide +kernel
theorem d_Queue_add_42 : decode prog_9_method_4_code 42 = .ok (.dup, 1) := by decide +kernel
theorem d_Queue_add_43 : decode prog_9_method_4_code 43 = .ok (.getfield 18, 3) := by decide +kernel
theorem d_Queue_add_46 : decode prog_9_method_4_code 46 = .ok (.iconst 1, 1) := by decide +kernel
theorem d_Queue_add_47 : decode prog_9_method_4_code 47 = .ok (.iadd, 1) := by decide +kernel
theorem d_Queue_add_48 : decode prog_9_method_4_code 48 = .ok (.putfield 18, 3) := by decide +kernel
theorem d_Queue_add_51 : decode prog_9_method_4_code 51 = .ok (.aload_n 0, 1) := by decide +kernel
theorem d_Queue_add_52 : decode prog_9_method_4_code 52 = .ok (.dup, 1) := by decide +kernel
theorem d_Queue_add_53 : decode prog_9_method_4_code 53 = .ok (.getfield 26, 3) := by decide +kernel
theorem d_Queue_add_56 : decode prog_9_method_4_code 56 = .ok (.iconst 1, 1) := by decide +kernel
theorem d_Queue_add_57 : decode prog_9_method_4_code 57 = .ok (.iadd, 1) := by decide +kernel
theorem d_Queue_add_58 : decode prog_9_method_4_code 58 = .ok (.putfield 26, 3) := by decide +kernel
theorem d_Queue_add_61 : decode prog_9_method_4_code 61 = .ok (.aload_n 3, 1) := by decide +kernel
theorem d_Queue_add_62 : decode prog_9_method_4_code 62 = .ok (.getfield 42, 3) := by decide +kernel
theorem d_Queue_add_65 : decode prog_9_method_4_code 65 = .ok (.ireturn, 1) := by decide +kernel
set_option maxHeartbeats 4000000 in
set_option maxRecDepth 20000 in
theorem c_Queue_add {P : xP} {F : xF} {z : Nat} {q : Nat} {k : Nat} {nx : Nat} {p : Nat → Nat} {m : Nat → mS} {t : Nat} {n : Nat} {s : Nat → Nat} {pr : Nat} (hq : xQp F (q) (k) (nx) (p) (m)) (ht : xTx F (t) (16) (n) (s)) (hk7 : k < 8) (hnx : nx < 999) (hpr : pr < 1000) (hd : t + 2 ≤ q ∨ q + 26 ≤ t) : xM P xy_Queue_add [.ref q, .ref t, .int (nI (pr))] F (z) 0 0 (fun r9 F9 z9 => r9 = some (.int (nI (nx))) ∧ z9 = z ∧ xQp F9 (q) (k + 1) (nx + 1) (p) ((updA m k (nx, pr, n, s))) ∧ xTx F9 (t) (16) (n) (s) ∧ (∀ a9 : Nat, (a9 < q ∨ q + 26 ≤ a9) → F9 a9 = F a9)) := by
  refine xM_i .int rfl (Nat.le_of_ble_eq_true rfl) (L0 := [some (.ref q), some (.ref t), some (.int (nI (pr))), none]) rfl rfl fun Θ hC hret => ?_
  have hag : ∀ a9 : Nat, (a9 < q ∨ q + 1 ≤ a9) → (a9 < q + 2 + 3 * p k ∨ q + 2 + 3 * p k + 3 ≤ a9) → F a9 = F a9 := fun a9 _ _ => rfl
  have hqo := hq.1
  refine x_aload_n hC d_Queue_add_0 rfl rfl ?_
  refine x_callV hC kv_Queue_29 (c_Queue_isFull (hq := hq)) hq.1 rfl rfl (by decide) rfl rfl rfl (Nat.le_of_ble_eq_true rfl) (by decide) d_Queue_add_1 (fun r9 F9 z9 hp9 => ?_)
  obtain ⟨rfl, h9b, h9c⟩ := hp9
  rw [h9b, h9c]
  clear h9b h9c F9 z9
  refine x_ifB_eq hC d_Queue_add_4 (tgt := 10) (by decide) (fun c_4 => ?_) (fun c_4 => ?_)
  · skip
    obtain ⟨h0, hk, ⟨f, h1, hf⟩, hm⟩ := id hq
    have hpk := hm.1 k (by omega)
    obtain ⟨g0, g1, g2⟩ := hm.2.2 k (by omega)
    refine x_aload_n hC d_Queue_add_10 rfl rfl ?_
    refine x_getf hC kf_Queue_11 h0 rfl d_Queue_add_11 ?_
    refine x_aload_n hC d_Queue_add_14 rfl rfl ?_
    refine x_getf hC kf_Queue_18 h0 rfl d_Queue_add_15 ?_
    refine x_aald hC h1 (by decide) rfl (j := k) ⟨rfl, by omega, by omega⟩ (x := .ref (q + 2 + 3 * p k)) (hf k (by omega)) rfl d_Queue_add_18 ?_
    refine x_astore_n hC d_Queue_add_19 rfl (Nat.le_of_ble_eq_true rfl) (L1 := [some (.ref q), some (.ref t), some (.int (nI (pr))), some (.ref (q + 2 + 3 * p k))]) rfl ?_
    refine x_aload_n hC d_Queue_add_20 rfl rfl ?_
    refine x_getf hC kf_Queue_33 g0 rfl d_Queue_add_21 ?_
    refine x_aload_n hC d_Queue_add_24 rfl rfl ?_
    refine x_callV hC kv_Queue_37 (c_Text_copyFrom (ht := g1) (ho := ht) (hsz := ht.2.1.1) (hd := by omega)) g1.1 rfl rfl (by decide) rfl rfl rfl (Nat.le_of_ble_eq_true rfl) (by decide) d_Queue_add_25 (fun r9 F9 z9 hp9 => ?_)
    obtain ⟨rfl, h9c, j0, j1, hag9⟩ := hp9
    rw [h9c]
    clear h9c z9
    generalize F9 = F1 at *
    have h0 : F1 (q) = some (.inl (5, [.ref (q + 1), .int (nI (k)), .int (nI (nx))])) := (hag9 _ (by omega)).trans h0
    have h1 : F1 (q + 1) = some (.inr (5, 8, f)) := (hag9 _ (by omega)).trans h1
    have g0 : F1 (q + 2 + 3 * p k) = some (.inl (3, [.ref (q + 2 + 3 * p k + 1), .int (nI ((m k).1)), .int (nI ((m k).2.1))])) := (hag9 _ (by omega)).trans g0
    have g1 : xTx F1 ((q + 2 + 3 * p k + 1)) (16) (n) (s) := j0
    have ht : xTx F1 (t) (16) (n) (s) := j1
    have hag : ∀ a9 : Nat, (a9 < q ∨ q + 1 ≤ a9) → (a9 < q + 2 + 3 * p k ∨ q + 2 + 3 * p k + 3 ≤ a9) → F1 a9 = F a9 := fun a9 q0 q1 => (hag9 a9 (by omega)).trans (hag a9 q0 q1)
    have hg_25 := hag9
    clear hag9
    refine x_aload_n hC d_Queue_add_28 rfl rfl ?_
    refine x_aload_n hC d_Queue_add_29 rfl rfl ?_
    refine x_getf hC kf_Queue_26 h0 rfl d_Queue_add_30 ?_
    refine x_putf hC kf_Queue_42 g0 (Nat.le_of_ble_eq_true rfl) rfl rfl d_Queue_add_33 (fs1 := [.ref (q + 2 + 3 * p k + 1), .int (nI (nx)), .int (nI ((m k).2.1))]) rfl ?_
    generalize e2 : xup F1 (q + 2 + 3 * p k) (.inl (3, [.ref (q + 2 + 3 * p k + 1), .int (nI (nx)), .int (nI ((m k).2.1))])) = F2
    have h0 : F2 (q) = some (.inl (5, [.ref (q + 1), .int (nI (k)), .int (nI (nx))])) := by rw [← e2]; exact (xup_ne (by omega)).trans h0
    have h1 : F2 (q + 1) = some (.inr (5, 8, f)) := by rw [← e2]; exact (xup_ne (by omega)).trans h1
    have g0 : F2 (q + 2 + 3 * p k) = some (.inl (3, [.ref (q + 2 + 3 * p k + 1), .int (nI (nx)), .int (nI ((m k).2.1))])) := by rw [← e2]; exact xup_eq
    have g1 : xTx F2 ((q + 2 + 3 * p k + 1)) (16) (n) (s) := xTx_fr g1 (fun a9 q1 q2 => by rw [← e2]; exact xup_ne (by omega))
    have ht : xTx F2 (t) (16) (n) (s) := xTx_fr ht (fun a9 q1 q2 => by rw [← e2]; exact xup_ne (by omega))
    have hag : ∀ a9 : Nat, (a9 < q ∨ q + 1 ≤ a9) → (a9 < q + 2 + 3 * p k ∨ q + 2 + 3 * p k + 3 ≤ a9) → F2 a9 = F a9 := fun a9 q0 q1 => by rw [← e2]; exact (xup_ne (by omega)).trans (hag a9 q0 q1)
    refine x_aload_n hC d_Queue_add_36 rfl rfl ?_
    refine x_iload_n hC d_Queue_add_37 rfl rfl ?_
    refine x_putf hC kf_Queue_45 g0 (Nat.le_of_ble_eq_true rfl) rfl rfl d_Queue_add_38 (fs1 := [.ref (q + 2 + 3 * p k + 1), .int (nI (nx)), .int (nI (pr))]) rfl ?_
    generalize e3 : xup F2 (q + 2 + 3 * p k) (.inl (3, [.ref (q + 2 + 3 * p k + 1), .int (nI (nx)), .int (nI (pr))])) = F3
    have h0 : F3 (q) = some (.inl (5, [.ref (q + 1), .int (nI (k)), .int (nI (nx))])) := by rw [← e3]; exact (xup_ne (by omega)).trans h0
    have h1 : F3 (q + 1) = some (.inr (5, 8, f)) := by rw [← e3]; exact (xup_ne (by omega)).trans h1
    have g0 : F3 (q + 2 + 3 * p k) = some (.inl (3, [.ref (q + 2 + 3 * p k + 1), .int (nI (nx)), .int (nI (pr))])) := by rw [← e3]; exact xup_eq
    have g1 : xTx F3 ((q + 2 + 3 * p k + 1)) (16) (n) (s) := xTx_fr g1 (fun a9 q1 q2 => by rw [← e3]; exact xup_ne (by omega))
    have ht : xTx F3 (t) (16) (n) (s) := xTx_fr ht (fun a9 q1 q2 => by rw [← e3]; exact xup_ne (by omega))
    have hag : ∀ a9 : Nat, (a9 < q ∨ q + 1 ≤ a9) → (a9 < q + 2 + 3 * p k ∨ q + 2 + 3 * p k + 3 ≤ a9) → F3 a9 = F a9 := fun a9 q0 q1 => by rw [← e3]; exact (xup_ne (by omega)).trans (hag a9 q0 q1)
    refine x_aload_n hC d_Queue_add_41 rfl rfl ?_
    refine x_dup hC d_Queue_add_42 rfl ?_
    refine x_getf hC kf_Queue_18 h0 rfl d_Queue_add_43 ?_
    refine x_iconst hC d_Queue_add_46 (v := nI 1) (by decide) ?_
    refine x_iadd hC d_Queue_add_47 (v := (nI (k + 1))) (x_addN (by omega)) ?_
    refine x_putf hC kf_Queue_18 h0 (Nat.le_of_ble_eq_true rfl) rfl rfl d_Queue_add_48 (fs1 := [.ref (q + 1), .int (nI (k + 1)), .int (nI (nx))]) rfl ?_
    generalize e4 : xup F3 (q) (.inl (5, [.ref (q + 1), .int (nI (k + 1)), .int (nI (nx))])) = F4
    have h0 : F4 (q) = some (.inl (5, [.ref (q + 1), .int (nI (k + 1)), .int (nI (nx))])) := by rw [← e4]; exact xup_eq
    have h1 : F4 (q + 1) = some (.inr (5, 8, f)) := by rw [← e4]; exact (xup_ne (by omega)).trans h1
    have g0 : F4 (q + 2 + 3 * p k) = some (.inl (3, [.ref (q + 2 + 3 * p k + 1), .int (nI (nx)), .int (nI (pr))])) := by rw [← e4]; exact (xup_ne (by omega)).trans g0
    have g1 : xTx F4 ((q + 2 + 3 * p k + 1)) (16) (n) (s) := xTx_fr g1 (fun a9 q1 q2 => by rw [← e4]; exact xup_ne (by omega))
    have ht : xTx F4 (t) (16) (n) (s) := xTx_fr ht (fun a9 q1 q2 => by rw [← e4]; exact xup_ne (by omega))
    have hag : ∀ a9 : Nat, (a9 < q ∨ q + 1 ≤ a9) → (a9 < q + 2 + 3 * p k ∨ q + 2 + 3 * p k + 3 ≤ a9) → F4 a9 = F a9 := fun a9 q0 q1 => by rw [← e4]; exact (xup_ne (by omega)).trans (hag a9 q0 q1)
    refine x_aload_n hC d_Queue_add_51 rfl rfl ?_
    refine x_dup hC d_Queue_add_52 rfl ?_
    refine x_getf hC kf_Queue_26 h0 rfl d_Queue_add_53 ?_
    refine x_iconst hC d_Queue_add_56 (v := nI 1) (by decide) ?_
    refine x_iadd hC d_Queue_add_57 (v := (nI (nx + 1))) (x_addN (by omega)) ?_
    refine x_putf hC kf_Queue_26 h0 (Nat.le_of_ble_eq_true rfl) rfl rfl d_Queue_add_58 (fs1 := [.ref (q + 1), .int (nI (k + 1)), .int (nI (nx + 1))]) rfl ?_
    generalize e5 : xup F4 (q) (.inl (5, [.ref (q + 1), .int (nI (k + 1)), .int (nI (nx + 1))])) = F5
    have h0 : F5 (q) = some (.inl (5, [.ref (q + 1), .int (nI (k + 1)), .int (nI (nx + 1))])) := by rw [← e5]; exact xup_eq
    have h1 : F5 (q + 1) = some (.inr (5, 8, f)) := by rw [← e5]; exact (xup_ne (by omega)).trans h1
    have g0 : F5 (q + 2 + 3 * p k) = some (.inl (3, [.ref (q + 2 + 3 * p k + 1), .int (nI (nx)), .int (nI (pr))])) := by rw [← e5]; exact (xup_ne (by omega)).trans g0
    have g1 : xTx F5 ((q + 2 + 3 * p k + 1)) (16) (n) (s) := xTx_fr g1 (fun a9 q1 q2 => by rw [← e5]; exact xup_ne (by omega))
    have ht : xTx F5 (t) (16) (n) (s) := xTx_fr ht (fun a9 q1 q2 => by rw [← e5]; exact xup_ne (by omega))
    have hag : ∀ a9 : Nat, (a9 < q ∨ q + 1 ≤ a9) → (a9 < q + 2 + 3 * p k ∨ q + 2 + 3 * p k + 3 ≤ a9) → F5 a9 = F a9 := fun a9 q0 q1 => by rw [← e5]; exact (xup_ne (by omega)).trans (hag a9 q0 q1)
    refine x_aload_n hC d_Queue_add_61 rfl rfl ?_
    refine x_getf hC kf_Queue_42 g0 rfl d_Queue_add_62 ?_
    refine hret _ _ _ _ _ _ _ d_Queue_add_65 (by decide) (by decide) rfl ?_
    refine ⟨rfl, rfl, ⟨h0, ⟨by omega, by omega⟩, ⟨f, h1, hf⟩, ⟨hm.1, hm.2.1, fun j hj => ?_⟩⟩, ht, fun a9 h9 => hag a9 (by omega) (by omega)⟩
    by_cases e9 : j = k
    · subst e9; rw [updA_eq]; exact ⟨g0, g1, by show nx < 1000; omega, hpr⟩
    · rw [updA_ne e9]; have h2 : ¬ p j = p k := fun e8 => e9 (hm.2.1 j hj k (by omega) e8); have h3 := hm.1 j hj; exact xMs_fr (hm.2.2 j hj) (fun a9 q1 q2 => hag a9 (by omega) (by omega))
  · skip
    exact absurd c_4 (by omega)

theorem d_Queue_copyFrom_0 : decode prog_9_method_2_code 0 = .ok (.iconst 0, 1) := by decide +kernel
theorem d_Queue_copyFrom_1 : decode prog_9_method_2_code 1 = .ok (.istore_n 2, 1) := by decide +kernel
theorem d_Queue_copyFrom_2 : decode prog_9_method_2_code 2 = .ok (.iload_n 2, 1) := by decide +kernel
theorem d_Queue_copyFrom_3 : decode prog_9_method_2_code 3 = .ok (.aload_n 1, 1) := by decide +kernel
theorem d_Queue_copyFrom_4 : decode prog_9_method_2_code 4 = .ok (.getfield 18, 3) := by decide +kernel
theorem d_Queue_copyFrom_7 : decode prog_9_method_2_code 7 = .ok (.if_icmp .ge 24, 3) := by decide +kernel
theorem d_Queue_copyFrom_10 : decode prog_9_method_2_code 10 = .ok (.aload_n 0, 1) := by decide +kernel
theorem d_Queue_copyFrom_11 : decode prog_9_method_2_code 11 = .ok (.getfield 11, 3) := by decide +kernel
theorem d_Queue_copyFrom_14 : decode prog_9_method_2_code 14 = .ok (.iload_n 2, 1) := by decide +kernel
theorem d_Queue_copyFrom_15 : decode prog_9_method_2_code 15 = .ok (.aaload, 1) := by decide +kernel
theorem d_Queue_copyFrom_16 : decode prog_9_method_2_code 16 = .ok (.aload_n 1, 1) := by decide +kernel
theorem d_Queue_copyFrom_17 : decode prog_9_method_2_code 17 = .ok (.getfield 11, 3) := by decide +kernel
theorem d_Queue_copyFrom_20 : decode prog_9_method_2_code 20 = .ok (.iload_n 2, 1) := by decide +kernel
theorem d_Queue_copyFrom_21 : decode prog_9_method_2_code 21 = .ok (.aaload, 1) := by decide +kernel
theorem d_Queue_copyFrom_22 : decode prog_9_method_2_code 22 = .ok (.invokevirtual 22, 3) := by decide +kernel
theorem d_Queue_copyFrom_25 : decode prog_9_method_2_code 25 = .ok (.iinc 2 1, 3) := by decide +kernel
theorem d_Queue_copyFrom_28 : decode prog_9_method_2_code 28 = .ok (.goto (-26), 3) := by decide +kernel
theorem d_Queue_copyFrom_31 : decode prog_9_method_2_code 31 = .ok (.aload_n 0, 1) := by decide +kernel
theorem d_Queue_copyFrom_32 : decode prog_9_method_2_code 32 = .ok (.aload_n 1, 1) := by decide +kernel
theorem d_Queue_copyFrom_33 : decode prog_9_method_2_code 33 = .ok (.getfield 18, 3) := by decide +kernel
theorem d_Queue_copyFrom_36 : decode prog_9_method_2_code 36 = .ok (.putfield 18, 3) := by decide +kernel
theorem d_Queue_copyFrom_39 : decode prog_9_method_2_code 39 = .ok (.aload_n 0, 1) := by decide +kernel
theorem d_Queue_copyFrom_40 : decode prog_9_method_2_code 40 = .ok (.aload_n 1, 1) := by decide +kernel
theorem d_Queue_copyFrom_41 : decode prog_9_method_2_code 41 = .ok (.getfield 26, 3) := by decide +kernel
theorem d_Queue_copyFrom_44 : decode prog_9_method_2_code 44 = .ok (.putfield 26, 3) := by decide +kernel
theorem d_Queue_copyFrom_47 : decode prog_9_method_2_code 47 = .ok (.return_, 1) := by decide +kernel
set_option maxHeartbeats 4000000 in
set_option maxRecDepth 20000 in
theorem c_Queue_copyFrom {P : xP} {F : xF} {z : Nat} {q : Nat} {k : Nat} {nx : Nat} {p : Nat → Nat} {m : Nat → mS} {o : Nat} {ko : Nat} {nxo : Nat} {po : Nat → Nat} {mo : Nat → mS} (hq : xQp F (q) (k) (nx) (p) (m)) (ho : xQp F (o) (ko) (nxo) (po) (mo)) (hd : q + 26 ≤ o ∨ o + 26 ≤ q) : xM P xy_Queue_copyFrom [.ref q, .ref o] F (z) 0 0 (fun r9 F9 z9 => r9 = none ∧ z9 = z ∧ xQp F9 (q) (ko) (nxo) (p) ((fun i9 => if i9 < ko then mo i9 else m i9)) ∧ xQp F9 (o) (ko) (nxo) (po) (mo) ∧ (∀ a9 : Nat, (a9 < q ∨ q + 26 ≤ a9) → F9 a9 = F a9)) := by
  refine xM_v rfl (Nat.le_of_ble_eq_true rfl) (L0 := [some (.ref q), some (.ref o), none]) rfl rfl fun Θ hC hin hret => ?_
  have hag : ∀ a9 : Nat, (a9 < q ∨ q + 26 ≤ a9) → F a9 = F a9 := fun a9 _ => rfl
  obtain ⟨h0, hk, ⟨f, h1, hf⟩, hm⟩ := id hq
  obtain ⟨m0, mk, ⟨fo, m1, mf⟩, mm⟩ := id ho
  have hk8 := hk.1
  have mk8 := mk.1
  refine x_iconst hC d_Queue_copyFrom_0 (v := nI 0) (by decide) ?_
  refine x_istore_n hC d_Queue_copyFrom_1 rfl (Nat.le_of_ble_eq_true rfl) (L1 := [some (.ref q), some (.ref o), some (.int (nI 0))]) rfl ?_
  have loop_2 : ∀ (m9 : Nat) (Fh2 : xF) (i : Nat), (Fh2 (q) = some (.inl (5, [.ref (q + 1), .int (nI (k)), .int (nI (nx))]))) → (Fh2 (q + 1) = some (.inr (5, 8, f))) → (xQm Fh2 (q) (p) ((fun i9 => if i9 < i then mo i9 else m i9))) → (Fh2 (o) = some (.inl (5, [.ref (o + 1), .int (nI (ko)), .int (nI (nxo))]))) → (Fh2 (o + 1) = some (.inr (5, 8, fo))) → (xQm Fh2 (o) (po) (mo)) → (∀ a9 : Nat, (a9 < q ∨ q + 26 ≤ a9) → Fh2 a9 = F a9) → (i ≤ ko) → (ko - i < m9) → xX P Θ 2 [some (.ref q), some (.ref o), some (.int (nI (i)))] [] Fh2 (z) 0 0 := by
    intro m9
    induction m9 with
    | zero => intros; omega
    | succ m9 ih_2 =>
      intro Fh2 i h0 h1 hm m0 m1 mm hag hi hm_2
      refine x_iload_n hC d_Queue_copyFrom_2 rfl rfl ?_
      refine x_aload_n hC d_Queue_copyFrom_3 rfl rfl ?_
      refine x_getf hC kf_Queue_18 m0 rfl d_Queue_copyFrom_4 ?_
      refine x_icmpN_ge hC d_Queue_copyFrom_7 (tgt := 31) (by decide) (by omega) (by omega) (fun c_7 => ?_) (fun c_7 => ?_)
      · skip
        refine x_aload_n hC d_Queue_copyFrom_31 rfl rfl ?_
        refine x_aload_n hC d_Queue_copyFrom_32 rfl rfl ?_
        refine x_getf hC kf_Queue_18 m0 rfl d_Queue_copyFrom_33 ?_
        refine x_putf hC kf_Queue_18 h0 (Nat.le_of_ble_eq_true rfl) rfl rfl d_Queue_copyFrom_36 (fs1 := [.ref (q + 1), .int (nI (ko)), .int (nI (nx))]) rfl ?_
        generalize e1 : xup Fh2 (q) (.inl (5, [.ref (q + 1), .int (nI (ko)), .int (nI (nx))])) = F1
        have h0 : F1 (q) = some (.inl (5, [.ref (q + 1), .int (nI (ko)), .int (nI (nx))])) := by rw [← e1]; exact xup_eq
        have h1 : F1 (q + 1) = some (.inr (5, 8, f)) := by rw [← e1]; exact (xup_ne (by omega)).trans h1
        have hm : xQm F1 (q) (p) ((fun i9 => if i9 < i then mo i9 else m i9)) := xQm_fr hm (fun a9 q1 q2 => by rw [← e1]; exact xup_ne (by omega))
        have m0 : F1 (o) = some (.inl (5, [.ref (o + 1), .int (nI (ko)), .int (nI (nxo))])) := by rw [← e1]; exact (xup_ne (by omega)).trans m0
        have m1 : F1 (o + 1) = some (.inr (5, 8, fo)) := by rw [← e1]; exact (xup_ne (by omega)).trans m1
        have mm : xQm F1 (o) (po) (mo) := xQm_fr mm (fun a9 q1 q2 => by rw [← e1]; exact xup_ne (by omega))
        have hag : ∀ a9 : Nat, (a9 < q ∨ q + 26 ≤ a9) → F1 a9 = F a9 := fun a9 q0 => by rw [← e1]; exact (xup_ne (by omega)).trans (hag a9 q0)
        refine x_aload_n hC d_Queue_copyFrom_39 rfl rfl ?_
        refine x_aload_n hC d_Queue_copyFrom_40 rfl rfl ?_
        refine x_getf hC kf_Queue_26 m0 rfl d_Queue_copyFrom_41 ?_
        refine x_putf hC kf_Queue_26 h0 (Nat.le_of_ble_eq_true rfl) rfl rfl d_Queue_copyFrom_44 (fs1 := [.ref (q + 1), .int (nI (ko)), .int (nI (nxo))]) rfl ?_
        generalize e2 : xup F1 (q) (.inl (5, [.ref (q + 1), .int (nI (ko)), .int (nI (nxo))])) = F2
        have h0 : F2 (q) = some (.inl (5, [.ref (q + 1), .int (nI (ko)), .int (nI (nxo))])) := by rw [← e2]; exact xup_eq
        have h1 : F2 (q + 1) = some (.inr (5, 8, f)) := by rw [← e2]; exact (xup_ne (by omega)).trans h1
        have hm : xQm F2 (q) (p) ((fun i9 => if i9 < i then mo i9 else m i9)) := xQm_fr hm (fun a9 q1 q2 => by rw [← e2]; exact xup_ne (by omega))
        have m0 : F2 (o) = some (.inl (5, [.ref (o + 1), .int (nI (ko)), .int (nI (nxo))])) := by rw [← e2]; exact (xup_ne (by omega)).trans m0
        have m1 : F2 (o + 1) = some (.inr (5, 8, fo)) := by rw [← e2]; exact (xup_ne (by omega)).trans m1
        have mm : xQm F2 (o) (po) (mo) := xQm_fr mm (fun a9 q1 q2 => by rw [← e2]; exact xup_ne (by omega))
        have hag : ∀ a9 : Nat, (a9 < q ∨ q + 26 ≤ a9) → F2 a9 = F a9 := fun a9 q0 => by rw [← e2]; exact (xup_ne (by omega)).trans (hag a9 q0)
        refine hret _ _ _ _ _ _ d_Queue_copyFrom_47 (by decide) (by decide) ?_
        obtain rfl : i = ko := by omega
        exact ⟨rfl, rfl, ⟨h0, mk, ⟨f, h1, hf⟩, hm⟩, ⟨m0, mk, ⟨fo, m1, mf⟩, mm⟩, hag⟩
      · skip
        refine x_aload_n hC d_Queue_copyFrom_10 rfl rfl ?_
        refine x_getf hC kf_Queue_11 h0 rfl d_Queue_copyFrom_11 ?_
        refine x_iload_n hC d_Queue_copyFrom_14 rfl rfl ?_
        refine x_aald hC h1 (by decide) rfl (j := i) ⟨rfl, by omega, by omega⟩ (x := .ref (q + 2 + 3 * p i)) (hf i (by omega)) rfl d_Queue_copyFrom_15 ?_
        refine x_aload_n hC d_Queue_copyFrom_16 rfl rfl ?_
        refine x_getf hC kf_Queue_11 m0 rfl d_Queue_copyFrom_17 ?_
        refine x_iload_n hC d_Queue_copyFrom_20 rfl rfl ?_
        refine x_aald hC m1 (by decide) rfl (j := i) ⟨rfl, by omega, by omega⟩ (x := .ref (o + 2 + 3 * po i)) (mf i (by omega)) rfl d_Queue_copyFrom_21 ?_
        have hpi := hm.1 i (by omega)
        have poi := mm.1 i (by omega)
        have hmi := hm.2.2 i (by omega)
        have hmo := mm.2.2 i (by omega)
        refine x_callV hC kv_Queue_22 (c_Message_copyFrom (hm := hmi) (ho := hmo) (hd := by omega)) hmi.1 rfl rfl (by decide) rfl rfl rfl (Nat.le_of_ble_eq_true rfl) (by decide) d_Queue_copyFrom_22 (fun r9 F9 z9 hp9 => ?_)
        obtain ⟨rfl, h9c, j0, j1, hag9⟩ := hp9
        rw [h9c]
        clear h9c z9
        generalize F9 = F3 at *
        have h0 : F3 (q) = some (.inl (5, [.ref (q + 1), .int (nI (k)), .int (nI (nx))])) := (hag9 _ (by omega)).trans h0
        have h1 : F3 (q + 1) = some (.inr (5, 8, f)) := (hag9 _ (by omega)).trans h1
        have m0 : F3 (o) = some (.inl (5, [.ref (o + 1), .int (nI (ko)), .int (nI (nxo))])) := (hag9 _ (by omega)).trans m0
        have m1 : F3 (o + 1) = some (.inr (5, 8, fo)) := (hag9 _ (by omega)).trans m1
        have hmi : xMs F3 ((q + 2 + 3 * p i)) (((mo i).1)) (((mo i).2.1)) (((mo i).2.2.1)) (((mo i).2.2.2)) := j0
        have hmo : xMs F3 ((o + 2 + 3 * po i)) (((mo i).1)) (((mo i).2.1)) (((mo i).2.2.1)) (((mo i).2.2.2)) := j1
        have hag : ∀ a9 : Nat, (a9 < q ∨ q + 26 ≤ a9) → F3 a9 = F a9 := fun a9 q0 => (hag9 a9 (by omega)).trans (hag a9 q0)
        have hg_22 := hag9
        clear hag9
        have hm : xQm F3 q p (updA (fun i9 => if i9 < i then mo i9 else m i9) i (mo i)) := xQm_up hm (by omega) hmi (fun a9 h9 => hg_22 a9 h9)
        have mm : xQm F3 o po mo := xQm_fr mm (fun a9 q1 q2 => hg_22 a9 (by omega))
        have hm : xQm F3 q p (fun i9 => if i9 < i + 1 then mo i9 else m i9) := xQm_ext hm (fun j hj => cpy_step mo m i j)
        refine x_iinc hC d_Queue_copyFrom_25 rfl (v := (nI (i + 1))) (x_incN 1) (Nat.le_of_ble_eq_true rfl) (L1 := [some (.ref q), some (.ref o), some (.int (nI (i + 1)))]) rfl ?_
        refine x_goto hC d_Queue_copyFrom_28 (tgt := 2) (by decide) ?_
        exact ih_2 F3 (i + 1) h0 h1 hm m0 m1 mm hag (by omega) (by omega)
  exact loop_2 (ko - 0 + 1) F (0) h0 h1 hm m0 m1 mm hag (by omega) (by omega)

theorem d_Queue_init_0 : decode prog_9_method_1_code 0 = .ok (.aload_n 0, 1) := by decide +kernel
theorem d_Queue_init_1 : decode prog_9_method_1_code 1 = .ok (.invokespecial 3, 3) := by decide +kernel
theorem d_Queue_init_4 : decode prog_9_method_1_code 4 = .ok (.aload_n 0, 1) := by decide +kernel
theorem d_Queue_init_5 : decode prog_9_method_1_code 5 = .ok (.bipush 8, 2) := by decide +kernel
theorem d_Queue_init_7 : decode prog_9_method_1_code 7 = .ok (.anewarray 9, 3) := by decide +kernel
theorem d_Queue_init_10 : decode prog_9_method_1_code 10 = .ok (.putfield 11, 3) := by decide +kernel
theorem d_Queue_init_13 : decode prog_9_method_1_code 13 = .ok (.iconst 0, 1) := by decide +kernel
theorem d_Queue_init_14 : decode prog_9_method_1_code 14 = .ok (.istore_n 1, 1) := by decide +kernel
theorem d_Queue_init_15 : decode prog_9_method_1_code 15 = .ok (.iload_n 1, 1) := by decide +kernel
theorem d_Queue_init_16 : decode prog_9_method_1_code 16 = .ok (.bipush 8, 2) := by decide +kernel
theorem d_Queue_init_18 : decode prog_9_method_1_code 18 = .ok (.if_icmp .ge 22, 3) := by decide +kernel
theorem d_Queue_init_21 : decode prog_9_method_1_code 21 = .ok (.aload_n 0, 1) := by decide +kernel
theorem d_Queue_init_22 : decode prog_9_method_1_code 22 = .ok (.getfield 11, 3) := by decide +kernel
theorem d_Queue_init_25 : decode prog_9_method_1_code 25 = .ok (.iload_n 1, 1) := by decide +kernel
theorem d_Queue_init_26 : decode prog_9_method_1_code 26 = .ok (.new 9, 3) := by decide +kernel
theorem d_Queue_init_29 : decode prog_9_method_1_code 29 = .ok (.dup, 1) := by decide +kernel
theorem d_Queue_init_30 : decode prog_9_method_1_code 30 = .ok (.invokespecial 17, 3) := by decide +kernel
theorem d_Queue_init_33 : decode prog_9_method_1_code 33 = .ok (.aastore, 1) := by decide +kernel
theorem d_Queue_init_34 : decode prog_9_method_1_code 34 = .ok (.iinc 1 1, 3) := by decide +kernel
theorem d_Queue_init_37 : decode prog_9_method_1_code 37 = .ok (.goto (-22), 3) := by decide +kernel
theorem d_Queue_init_40 : decode prog_9_method_1_code 40 = .ok (.return_, 1) := by decide +kernel
set_option maxHeartbeats 4000000 in
set_option maxRecDepth 20000 in
theorem c_Queue_init {P : xP} {F : xF} {q : Nat} (h0 : F (q) = some (.inl (5, [.null, .int (nI 0), .int (nI 0)])))  : xM P xy_Queue_init [.ref q] F (q + 1) 25 176 (fun r9 F9 z9 => r9 = none ∧ z9 = q + 26 ∧ xQp F9 (q) (0) (0) ((fun i9 => i9)) ((fun _ => (0, 0, 0, fun _ => 0))) ∧ (∀ a9 : Nat, (a9 < q ∨ q + 26 ≤ a9) → F9 a9 = F a9)) := by
  refine xM_v rfl (Nat.le_of_ble_eq_true rfl) (L0 := [some (.ref q), none]) rfl rfl fun Θ hC hin hret => ?_
  have hag : ∀ a9 : Nat, (a9 < q ∨ q + 26 ≤ a9) → F a9 = F a9 := fun a9 _ => rfl
  refine x_aload_n hC d_Queue_init_0 rfl rfl ?_
  refine x_objInit hC ko_Queue_3 rfl (by decide) (Nat.le_of_ble_eq_true rfl) d_Queue_init_1 ?_
  refine x_aload_n hC d_Queue_init_4 rfl rfl ?_
  refine x_bipush hC d_Queue_init_5 (v := nI 8) (by decide) ?_
  refine x_anewa hC (t := 5) rfl (by decide) (x_in (x_of (xtb_1 (List.mem_of_getElem? (i := 138) (by decide +kernel)))) (by decide +kernel)) (x_inN (xtb_1 (List.mem_of_getElem? (i := 139) (by decide +kernel))) (by decide +kernel)) rfl (by omega) (by decide) (by decide) d_Queue_init_7 ?_
  generalize e1 : xup F (q + 1) (.inr (5, 8, (fun _ => .null))) = F1
  have h0 : F1 (q) = some (.inl (5, [.null, .int (nI 0), .int (nI 0)])) := by rw [← e1]; exact (xup_ne (by omega)).trans h0
  have h1 : F1 (q + 1) = some (.inr (5, 8, (fun _ => .null))) := by rw [← e1]; exact xup_eq
  have hag : ∀ a9 : Nat, (a9 < q ∨ q + 26 ≤ a9) → F1 a9 = F a9 := fun a9 q0 => by rw [← e1]; exact (xup_ne (by omega)).trans (hag a9 q0)
  refine x_putF hC hin kk_Queue_11 h0 (Nat.le_of_ble_eq_true rfl) rfl rfl d_Queue_init_10 (fs1 := [.ref (q + 1), .int (nI 0), .int (nI 0)]) rfl ?_
  generalize e2 : xup F1 (q) (.inl (5, [.ref (q + 1), .int (nI 0), .int (nI 0)])) = F2
  have h0 : F2 (q) = some (.inl (5, [.ref (q + 1), .int (nI 0), .int (nI 0)])) := by rw [← e2]; exact xup_eq
  have h1 : F2 (q + 1) = some (.inr (5, 8, (fun _ => .null))) := by rw [← e2]; exact (xup_ne (by omega)).trans h1
  have hag : ∀ a9 : Nat, (a9 < q ∨ q + 26 ≤ a9) → F2 a9 = F a9 := fun a9 q0 => by rw [← e2]; exact (xup_ne (by omega)).trans (hag a9 q0)
  refine x_iconst hC d_Queue_init_13 (v := nI 0) (by decide) ?_
  refine x_istore_n hC d_Queue_init_14 rfl (Nat.le_of_ble_eq_true rfl) (L1 := [some (.ref q), some (.int (nI 0))]) rfl ?_
  refine x_iload_n hC d_Queue_init_15 rfl rfl ?_
  refine x_bipush hC d_Queue_init_16 (v := nI 8) (by decide) ?_
  refine x_icmpN_ge hC d_Queue_init_18 (tgt := 40) (by decide) (by omega) (by omega) (fun c_18 => ?_) (fun c_18 => ?_)
  · skip
    exact absurd c_18 (by omega)
  · skip
    refine x_aload_n hC d_Queue_init_21 rfl rfl ?_
    refine x_getf hC kf_Queue_11 h0 rfl d_Queue_init_22 ?_
    refine x_iload_n hC d_Queue_init_25 rfl rfl ?_
    refine x_new hC (fs := [.null, .int (nI 0), .int (nI 0)]) kn_Queue_9 (by decide) d_Queue_init_26 ?_
    generalize e3 : xup F2 (q + 2) (.inl (3, [.null, .int (nI 0), .int (nI 0)])) = F3
    have h0 : F3 (q) = some (.inl (5, [.ref (q + 1), .int (nI 0), .int (nI 0)])) := by rw [← e3]; exact (xup_ne (by omega)).trans h0
    have h1 : F3 (q + 1) = some (.inr (5, 8, (fun _ => .null))) := by rw [← e3]; exact (xup_ne (by omega)).trans h1
    have hz2 : F3 (q + 2) = some (.inl (3, [.null, .int (nI 0), .int (nI 0)])) := by rw [← e3]; exact xup_eq
    have hag : ∀ a9 : Nat, (a9 < q ∨ q + 26 ≤ a9) → F3 a9 = F a9 := fun a9 q0 => by rw [← e3]; exact (xup_ne (by omega)).trans (hag a9 q0)
    refine x_dup hC d_Queue_init_29 rfl ?_
    refine x_callI hC ki_Queue_17 rfl (c_Message_init (h0 := hz2)) (by decide) rfl rfl rfl (Nat.le_of_ble_eq_true rfl) (by decide) d_Queue_init_30 (fun r9 F9 z9 hp9 => ?_)
    obtain ⟨rfl, h9c, j0, hag9⟩ := hp9
    rw [h9c]
    clear h9c z9
    generalize F9 = F4 at *
    have h0 : F4 (q) = some (.inl (5, [.ref (q + 1), .int (nI 0), .int (nI 0)])) := (hag9 _ (by omega)).trans h0
    have h1 : F4 (q + 1) = some (.inr (5, 8, (fun _ => .null))) := (hag9 _ (by omega)).trans h1
    have hz2 : xMs F4 ((q + 2)) (0) (0) (0) ((fun _ => 0)) := j0
    have hag : ∀ a9 : Nat, (a9 < q ∨ q + 26 ≤ a9) → F4 a9 = F a9 := fun a9 q0 => (hag9 a9 (by omega)).trans (hag a9 q0)
    have hg_30 := hag9
    clear hag9
    refine x_aast hC h1 (by decide) rfl hz2.1 rfl (j := 0) ⟨rfl, by omega, by omega⟩ d_Queue_init_33 (f1 := updV ((fun _ => .null)) (0) (.ref (q + 2))) rfl ?_
    generalize eg5 : updV ((fun _ => .null)) (0) (.ref (q + 2)) = gw5
    generalize e6 : xup F4 (q + 1) (.inr (5, 8, gw5)) = F6
    have h0 : F6 (q) = some (.inl (5, [.ref (q + 1), .int (nI 0), .int (nI 0)])) := by rw [← e6]; exact (xup_ne (by omega)).trans h0
    have h1 : F6 (q + 1) = some (.inr (5, 8, gw5)) := by rw [← e6]; exact xup_eq
    have hz2 : xMs F6 ((q + 2)) (0) (0) (0) ((fun _ => 0)) := xMs_fr hz2 (fun a9 q1 q2 => by rw [← e6]; exact xup_ne (by omega))
    have hag : ∀ a9 : Nat, (a9 < q ∨ q + 26 ≤ a9) → F6 a9 = F a9 := fun a9 q0 => by rw [← e6]; exact (xup_ne (by omega)).trans (hag a9 q0)
    refine x_iinc hC d_Queue_init_34 rfl (v := (nI (1))) (x_incN 1) (Nat.le_of_ble_eq_true rfl) (L1 := [some (.ref q), some (.int (nI 1))]) rfl ?_
    refine x_goto hC d_Queue_init_37 (tgt := 15) (by decide) ?_
    refine x_iload_n hC d_Queue_init_15 rfl rfl ?_
    refine x_bipush hC d_Queue_init_16 (v := nI 8) (by decide) ?_
    refine x_icmpN_ge hC d_Queue_init_18 (tgt := 40) (by decide) (by omega) (by omega) (fun c_18 => ?_) (fun c_18 => ?_)
    · skip
      exact absurd c_18 (by omega)
    · skip
      refine x_aload_n hC d_Queue_init_21 rfl rfl ?_
      refine x_getf hC kf_Queue_11 h0 rfl d_Queue_init_22 ?_
      refine x_iload_n hC d_Queue_init_25 rfl rfl ?_
      refine x_new hC (fs := [.null, .int (nI 0), .int (nI 0)]) kn_Queue_9 (by decide) d_Queue_init_26 ?_
      generalize e7 : xup F6 (q + 5) (.inl (3, [.null, .int (nI 0), .int (nI 0)])) = F7
      have h0 : F7 (q) = some (.inl (5, [.ref (q + 1), .int (nI 0), .int (nI 0)])) := by rw [← e7]; exact (xup_ne (by omega)).trans h0
      have h1 : F7 (q + 1) = some (.inr (5, 8, gw5)) := by rw [← e7]; exact (xup_ne (by omega)).trans h1
      have hz2 : xMs F7 ((q + 2)) (0) (0) (0) ((fun _ => 0)) := xMs_fr hz2 (fun a9 q1 q2 => by rw [← e7]; exact xup_ne (by omega))
      have hz3 : F7 (q + 5) = some (.inl (3, [.null, .int (nI 0), .int (nI 0)])) := by rw [← e7]; exact xup_eq
      have hag : ∀ a9 : Nat, (a9 < q ∨ q + 26 ≤ a9) → F7 a9 = F a9 := fun a9 q0 => by rw [← e7]; exact (xup_ne (by omega)).trans (hag a9 q0)
      refine x_dup hC d_Queue_init_29 rfl ?_
      refine x_callI hC ki_Queue_17 rfl (c_Message_init (h0 := hz3)) (by decide) rfl rfl rfl (Nat.le_of_ble_eq_true rfl) (by decide) d_Queue_init_30 (fun r9 F9 z9 hp9 => ?_)
      obtain ⟨rfl, h9c, j0, hag9⟩ := hp9
      rw [h9c]
      clear h9c z9
      generalize F9 = F8 at *
      have h0 : F8 (q) = some (.inl (5, [.ref (q + 1), .int (nI 0), .int (nI 0)])) := (hag9 _ (by omega)).trans h0
      have h1 : F8 (q + 1) = some (.inr (5, 8, gw5)) := (hag9 _ (by omega)).trans h1
      have hz2 : xMs F8 ((q + 2)) (0) (0) (0) ((fun _ => 0)) := xMs_fr hz2 (fun a9 q1 q2 => hag9 a9 (by omega))
      have hz3 : xMs F8 ((q + 5)) (0) (0) (0) ((fun _ => 0)) := j0
      have hag : ∀ a9 : Nat, (a9 < q ∨ q + 26 ≤ a9) → F8 a9 = F a9 := fun a9 q0 => (hag9 a9 (by omega)).trans (hag a9 q0)
      have hg_30 := hag9
      clear hag9
      refine x_aast hC h1 (by decide) rfl hz3.1 rfl (j := 1) ⟨rfl, by omega, by omega⟩ d_Queue_init_33 (f1 := updV gw5 (1) (.ref (q + 5))) rfl ?_
      generalize eg9 : updV gw5 (1) (.ref (q + 5)) = gw9
      generalize e10 : xup F8 (q + 1) (.inr (5, 8, gw9)) = F10
      have h0 : F10 (q) = some (.inl (5, [.ref (q + 1), .int (nI 0), .int (nI 0)])) := by rw [← e10]; exact (xup_ne (by omega)).trans h0
      have h1 : F10 (q + 1) = some (.inr (5, 8, gw9)) := by rw [← e10]; exact xup_eq
      have hz2 : xMs F10 ((q + 2)) (0) (0) (0) ((fun _ => 0)) := xMs_fr hz2 (fun a9 q1 q2 => by rw [← e10]; exact xup_ne (by omega))
      have hz3 : xMs F10 ((q + 5)) (0) (0) (0) ((fun _ => 0)) := xMs_fr hz3 (fun a9 q1 q2 => by rw [← e10]; exact xup_ne (by omega))
      have hag : ∀ a9 : Nat, (a9 < q ∨ q + 26 ≤ a9) → F10 a9 = F a9 := fun a9 q0 => by rw [← e10]; exact (xup_ne (by omega)).trans (hag a9 q0)
      refine x_iinc hC d_Queue_init_34 rfl (v := (nI (2))) (x_incN 1) (Nat.le_of_ble_eq_true rfl) (L1 := [some (.ref q), some (.int (nI 2))]) rfl ?_
      refine x_goto hC d_Queue_init_37 (tgt := 15) (by decide) ?_
      refine x_iload_n hC d_Queue_init_15 rfl rfl ?_
      refine x_bipush hC d_Queue_init_16 (v := nI 8) (by decide) ?_
      refine x_icmpN_ge hC d_Queue_init_18 (tgt := 40) (by decide) (by omega) (by omega) (fun c_18 => ?_) (fun c_18 => ?_)
      · skip
        exact absurd c_18 (by omega)
      · skip
        refine x_aload_n hC d_Queue_init_21 rfl rfl ?_
        refine x_getf hC kf_Queue_11 h0 rfl d_Queue_init_22 ?_
        refine x_iload_n hC d_Queue_init_25 rfl rfl ?_
        refine x_new hC (fs := [.null, .int (nI 0), .int (nI 0)]) kn_Queue_9 (by decide) d_Queue_init_26 ?_
        generalize e11 : xup F10 (q + 8) (.inl (3, [.null, .int (nI 0), .int (nI 0)])) = F11
        have h0 : F11 (q) = some (.inl (5, [.ref (q + 1), .int (nI 0), .int (nI 0)])) := by rw [← e11]; exact (xup_ne (by omega)).trans h0
        have h1 : F11 (q + 1) = some (.inr (5, 8, gw9)) := by rw [← e11]; exact (xup_ne (by omega)).trans h1
        have hz2 : xMs F11 ((q + 2)) (0) (0) (0) ((fun _ => 0)) := xMs_fr hz2 (fun a9 q1 q2 => by rw [← e11]; exact xup_ne (by omega))
        have hz3 : xMs F11 ((q + 5)) (0) (0) (0) ((fun _ => 0)) := xMs_fr hz3 (fun a9 q1 q2 => by rw [← e11]; exact xup_ne (by omega))
        have hz4 : F11 (q + 8) = some (.inl (3, [.null, .int (nI 0), .int (nI 0)])) := by rw [← e11]; exact xup_eq
        have hag : ∀ a9 : Nat, (a9 < q ∨ q + 26 ≤ a9) → F11 a9 = F a9 := fun a9 q0 => by rw [← e11]; exact (xup_ne (by omega)).trans (hag a9 q0)
        refine x_dup hC d_Queue_init_29 rfl ?_
        refine x_callI hC ki_Queue_17 rfl (c_Message_init (h0 := hz4)) (by decide) rfl rfl rfl (Nat.le_of_ble_eq_true rfl) (by decide) d_Queue_init_30 (fun r9 F9 z9 hp9 => ?_)
        obtain ⟨rfl, h9c, j0, hag9⟩ := hp9
        rw [h9c]
        clear h9c z9
        generalize F9 = F12 at *
        have h0 : F12 (q) = some (.inl (5, [.ref (q + 1), .int (nI 0), .int (nI 0)])) := (hag9 _ (by omega)).trans h0
        have h1 : F12 (q + 1) = some (.inr (5, 8, gw9)) := (hag9 _ (by omega)).trans h1
        have hz2 : xMs F12 ((q + 2)) (0) (0) (0) ((fun _ => 0)) := xMs_fr hz2 (fun a9 q1 q2 => hag9 a9 (by omega))
        have hz3 : xMs F12 ((q + 5)) (0) (0) (0) ((fun _ => 0)) := xMs_fr hz3 (fun a9 q1 q2 => hag9 a9 (by omega))
        have hz4 : xMs F12 ((q + 8)) (0) (0) (0) ((fun _ => 0)) := j0
        have hag : ∀ a9 : Nat, (a9 < q ∨ q + 26 ≤ a9) → F12 a9 = F a9 := fun a9 q0 => (hag9 a9 (by omega)).trans (hag a9 q0)
        have hg_30 := hag9
        clear hag9
        refine x_aast hC h1 (by decide) rfl hz4.1 rfl (j := 2) ⟨rfl, by omega, by omega⟩ d_Queue_init_33 (f1 := updV gw9 (2) (.ref (q + 8))) rfl ?_
        generalize eg13 : updV gw9 (2) (.ref (q + 8)) = gw13
        generalize e14 : xup F12 (q + 1) (.inr (5, 8, gw13)) = F14
        have h0 : F14 (q) = some (.inl (5, [.ref (q + 1), .int (nI 0), .int (nI 0)])) := by rw [← e14]; exact (xup_ne (by omega)).trans h0
        have h1 : F14 (q + 1) = some (.inr (5, 8, gw13)) := by rw [← e14]; exact xup_eq
        have hz2 : xMs F14 ((q + 2)) (0) (0) (0) ((fun _ => 0)) := xMs_fr hz2 (fun a9 q1 q2 => by rw [← e14]; exact xup_ne (by omega))
        have hz3 : xMs F14 ((q + 5)) (0) (0) (0) ((fun _ => 0)) := xMs_fr hz3 (fun a9 q1 q2 => by rw [← e14]; exact xup_ne (by omega))
        have hz4 : xMs F14 ((q + 8)) (0) (0) (0) ((fun _ => 0)) := xMs_fr hz4 (fun a9 q1 q2 => by rw [← e14]; exact xup_ne (by omega))
        have hag : ∀ a9 : Nat, (a9 < q ∨ q + 26 ≤ a9) → F14 a9 = F a9 := fun a9 q0 => by rw [← e14]; exact (xup_ne (by omega)).trans (hag a9 q0)
        refine x_iinc hC d_Queue_init_34 rfl (v := (nI (3))) (x_incN 1) (Nat.le_of_ble_eq_true rfl) (L1 := [some (.ref q), some (.int (nI 3))]) rfl ?_
        refine x_goto hC d_Queue_init_37 (tgt := 15) (by decide) ?_
        refine x_iload_n hC d_Queue_init_15 rfl rfl ?_
        refine x_bipush hC d_Queue_init_16 (v := nI 8) (by decide) ?_
        refine x_icmpN_ge hC d_Queue_init_18 (tgt := 40) (by decide) (by omega) (by omega) (fun c_18 => ?_) (fun c_18 => ?_)
        · skip
          exact absurd c_18 (by omega)
        · skip
          refine x_aload_n hC d_Queue_init_21 rfl rfl ?_
          refine x_getf hC kf_Queue_11 h0 rfl d_Queue_init_22 ?_
          refine x_iload_n hC d_Queue_init_25 rfl rfl ?_
          refine x_new hC (fs := [.null, .int (nI 0), .int (nI 0)]) kn_Queue_9 (by decide) d_Queue_init_26 ?_
          generalize e15 : xup F14 (q + 11) (.inl (3, [.null, .int (nI 0), .int (nI 0)])) = F15
          have h0 : F15 (q) = some (.inl (5, [.ref (q + 1), .int (nI 0), .int (nI 0)])) := by rw [← e15]; exact (xup_ne (by omega)).trans h0
          have h1 : F15 (q + 1) = some (.inr (5, 8, gw13)) := by rw [← e15]; exact (xup_ne (by omega)).trans h1
          have hz2 : xMs F15 ((q + 2)) (0) (0) (0) ((fun _ => 0)) := xMs_fr hz2 (fun a9 q1 q2 => by rw [← e15]; exact xup_ne (by omega))
          have hz3 : xMs F15 ((q + 5)) (0) (0) (0) ((fun _ => 0)) := xMs_fr hz3 (fun a9 q1 q2 => by rw [← e15]; exact xup_ne (by omega))
          have hz4 : xMs F15 ((q + 8)) (0) (0) (0) ((fun _ => 0)) := xMs_fr hz4 (fun a9 q1 q2 => by rw [← e15]; exact xup_ne (by omega))
          have hz5 : F15 (q + 11) = some (.inl (3, [.null, .int (nI 0), .int (nI 0)])) := by rw [← e15]; exact xup_eq
          have hag : ∀ a9 : Nat, (a9 < q ∨ q + 26 ≤ a9) → F15 a9 = F a9 := fun a9 q0 => by rw [← e15]; exact (xup_ne (by omega)).trans (hag a9 q0)
          refine x_dup hC d_Queue_init_29 rfl ?_
          refine x_callI hC ki_Queue_17 rfl (c_Message_init (h0 := hz5)) (by decide) rfl rfl rfl (Nat.le_of_ble_eq_true rfl) (by decide) d_Queue_init_30 (fun r9 F9 z9 hp9 => ?_)
          obtain ⟨rfl, h9c, j0, hag9⟩ := hp9
          rw [h9c]
          clear h9c z9
          generalize F9 = F16 at *
          have h0 : F16 (q) = some (.inl (5, [.ref (q + 1), .int (nI 0), .int (nI 0)])) := (hag9 _ (by omega)).trans h0
          have h1 : F16 (q + 1) = some (.inr (5, 8, gw13)) := (hag9 _ (by omega)).trans h1
          have hz2 : xMs F16 ((q + 2)) (0) (0) (0) ((fun _ => 0)) := xMs_fr hz2 (fun a9 q1 q2 => hag9 a9 (by omega))
          have hz3 : xMs F16 ((q + 5)) (0) (0) (0) ((fun _ => 0)) := xMs_fr hz3 (fun a9 q1 q2 => hag9 a9 (by omega))
          have hz4 : xMs F16 ((q + 8)) (0) (0) (0) ((fun _ => 0)) := xMs_fr hz4 (fun a9 q1 q2 => hag9 a9 (by omega))
          have hz5 : xMs F16 ((q + 11)) (0) (0) (0) ((fun _ => 0)) := j0
          have hag : ∀ a9 : Nat, (a9 < q ∨ q + 26 ≤ a9) → F16 a9 = F a9 := fun a9 q0 => (hag9 a9 (by omega)).trans (hag a9 q0)
          have hg_30 := hag9
          clear hag9
          refine x_aast hC h1 (by decide) rfl hz5.1 rfl (j := 3) ⟨rfl, by omega, by omega⟩ d_Queue_init_33 (f1 := updV gw13 (3) (.ref (q + 11))) rfl ?_
          generalize eg17 : updV gw13 (3) (.ref (q + 11)) = gw17
          generalize e18 : xup F16 (q + 1) (.inr (5, 8, gw17)) = F18
          have h0 : F18 (q) = some (.inl (5, [.ref (q + 1), .int (nI 0), .int (nI 0)])) := by rw [← e18]; exact (xup_ne (by omega)).trans h0
          have h1 : F18 (q + 1) = some (.inr (5, 8, gw17)) := by rw [← e18]; exact xup_eq
          have hz2 : xMs F18 ((q + 2)) (0) (0) (0) ((fun _ => 0)) := xMs_fr hz2 (fun a9 q1 q2 => by rw [← e18]; exact xup_ne (by omega))
          have hz3 : xMs F18 ((q + 5)) (0) (0) (0) ((fun _ => 0)) := xMs_fr hz3 (fun a9 q1 q2 => by rw [← e18]; exact xup_ne (by omega))
          have hz4 : xMs F18 ((q + 8)) (0) (0) (0) ((fun _ => 0)) := xMs_fr hz4 (fun a9 q1 q2 => by rw [← e18]; exact xup_ne (by omega))
          have hz5 : xMs F18 ((q + 11)) (0) (0) (0) ((fun _ => 0)) := xMs_fr hz5 (fun a9 q1 q2 => by rw [← e18]; exact xup_ne (by omega))
          have hag : ∀ a9 : Nat, (a9 < q ∨ q + 26 ≤ a9) → F18 a9 = F a9 := fun a9 q0 => by rw [← e18]; exact (xup_ne (by omega)).trans (hag a9 q0)
          refine x_iinc hC d_Queue_init_34 rfl (v := (nI (4))) (x_incN 1) (Nat.le_of_ble_eq_true rfl) (L1 := [some (.ref q), some (.int (nI 4))]) rfl ?_
          refine x_goto hC d_Queue_init_37 (tgt := 15) (by decide) ?_
          refine x_iload_n hC d_Queue_init_15 rfl rfl ?_
          refine x_bipush hC d_Queue_init_16 (v := nI 8) (by decide) ?_
          refine x_icmpN_ge hC d_Queue_init_18 (tgt := 40) (by decide) (by omega) (by omega) (fun c_18 => ?_) (fun c_18 => ?_)
          · skip
            exact absurd c_18 (by omega)
          · skip
            refine x_aload_n hC d_Queue_init_21 rfl rfl ?_
            refine x_getf hC kf_Queue_11 h0 rfl d_Queue_init_22 ?_
            refine x_iload_n hC d_Queue_init_25 rfl rfl ?_
            refine x_new hC (fs := [.null, .int (nI 0), .int (nI 0)]) kn_Queue_9 (by decide) d_Queue_init_26 ?_
            generalize e19 : xup F18 (q + 14) (.inl (3, [.null, .int (nI 0), .int (nI 0)])) = F19
            have h0 : F19 (q) = some (.inl (5, [.ref (q + 1), .int (nI 0), .int (nI 0)])) := by rw [← e19]; exact (xup_ne (by omega)).trans h0
            have h1 : F19 (q + 1) = some (.inr (5, 8, gw17)) := by rw [← e19]; exact (xup_ne (by omega)).trans h1
            have hz2 : xMs F19 ((q + 2)) (0) (0) (0) ((fun _ => 0)) := xMs_fr hz2 (fun a9 q1 q2 => by rw [← e19]; exact xup_ne (by omega))
            have hz3 : xMs F19 ((q + 5)) (0) (0) (0) ((fun _ => 0)) := xMs_fr hz3 (fun a9 q1 q2 => by rw [← e19]; exact xup_ne (by omega))
            have hz4 : xMs F19 ((q + 8)) (0) (0) (0) ((fun _ => 0)) := xMs_fr hz4 (fun a9 q1 q2 => by rw [← e19]; exact xup_ne (by omega))
            have hz5 : xMs F19 ((q + 11)) (0) (0) (0) ((fun _ => 0)) := xMs_fr hz5 (fun a9 q1 q2 => by rw [← e19]; exact xup_ne (by omega))
            have hz6 : F19 (q + 14) = some (.inl (3, [.null, .int (nI 0), .int (nI 0)])) := by rw [← e19]; exact xup_eq
            have hag : ∀ a9 : Nat, (a9 < q ∨ q + 26 ≤ a9) → F19 a9 = F a9 := fun a9 q0 => by rw [← e19]; exact (xup_ne (by omega)).trans (hag a9 q0)
            refine x_dup hC d_Queue_init_29 rfl ?_
            refine x_callI hC ki_Queue_17 rfl (c_Message_init (h0 := hz6)) (by decide) rfl rfl rfl (Nat.le_of_ble_eq_true rfl) (by decide) d_Queue_init_30 (fun r9 F9 z9 hp9 => ?_)
            obtain ⟨rfl, h9c, j0, hag9⟩ := hp9
            rw [h9c]
            clear h9c z9
            generalize F9 = F20 at *
            have h0 : F20 (q) = some (.inl (5, [.ref (q + 1), .int (nI 0), .int (nI 0)])) := (hag9 _ (by omega)).trans h0
            have h1 : F20 (q + 1) = some (.inr (5, 8, gw17)) := (hag9 _ (by omega)).trans h1
            have hz2 : xMs F20 ((q + 2)) (0) (0) (0) ((fun _ => 0)) := xMs_fr hz2 (fun a9 q1 q2 => hag9 a9 (by omega))
            have hz3 : xMs F20 ((q + 5)) (0) (0) (0) ((fun _ => 0)) := xMs_fr hz3 (fun a9 q1 q2 => hag9 a9 (by omega))
            have hz4 : xMs F20 ((q + 8)) (0) (0) (0) ((fun _ => 0)) := xMs_fr hz4 (fun a9 q1 q2 => hag9 a9 (by omega))
            have hz5 : xMs F20 ((q + 11)) (0) (0) (0) ((fun _ => 0)) := xMs_fr hz5 (fun a9 q1 q2 => hag9 a9 (by omega))
            have hz6 : xMs F20 ((q + 14)) (0) (0) (0) ((fun _ => 0)) := j0
            have hag : ∀ a9 : Nat, (a9 < q ∨ q + 26 ≤ a9) → F20 a9 = F a9 := fun a9 q0 => (hag9 a9 (by omega)).trans (hag a9 q0)
            have hg_30 := hag9
            clear hag9
            refine x_aast hC h1 (by decide) rfl hz6.1 rfl (j := 4) ⟨rfl, by omega, by omega⟩ d_Queue_init_33 (f1 := updV gw17 (4) (.ref (q + 14))) rfl ?_
            generalize eg21 : updV gw17 (4) (.ref (q + 14)) = gw21
            generalize e22 : xup F20 (q + 1) (.inr (5, 8, gw21)) = F22
            have h0 : F22 (q) = some (.inl (5, [.ref (q + 1), .int (nI 0), .int (nI 0)])) := by rw [← e22]; exact (xup_ne (by omega)).trans h0
            have h1 : F22 (q + 1) = some (.inr (5, 8, gw21)) := by rw [← e22]; exact xup_eq
            have hz2 : xMs F22 ((q + 2)) (0) (0) (0) ((fun _ => 0)) := xMs_fr hz2 (fun a9 q1 q2 => by rw [← e22]; exact xup_ne (by omega))
            have hz3 : xMs F22 ((q + 5)) (0) (0) (0) ((fun _ => 0)) := xMs_fr hz3 (fun a9 q1 q2 => by rw [← e22]; exact xup_ne (by omega))
            have hz4 : xMs F22 ((q + 8)) (0) (0) (0) ((fun _ => 0)) := xMs_fr hz4 (fun a9 q1 q2 => by rw [← e22]; exact xup_ne (by omega))
            have hz5 : xMs F22 ((q + 11)) (0) (0) (0) ((fun _ => 0)) := xMs_fr hz5 (fun a9 q1 q2 => by rw [← e22]; exact xup_ne (by omega))
            have hz6 : xMs F22 ((q + 14)) (0) (0) (0) ((fun _ => 0)) := xMs_fr hz6 (fun a9 q1 q2 => by rw [← e22]; exact xup_ne (by omega))
            have hag : ∀ a9 : Nat, (a9 < q ∨ q + 26 ≤ a9) → F22 a9 = F a9 := fun a9 q0 => by rw [← e22]; exact (xup_ne (by omega)).trans (hag a9 q0)
            refine x_iinc hC d_Queue_init_34 rfl (v := (nI (5))) (x_incN 1) (Nat.le_of_ble_eq_true rfl) (L1 := [some (.ref q), some (.int (nI 5))]) rfl ?_
            refine x_goto hC d_Queue_init_37 (tgt := 15) (by decide) ?_
            refine x_iload_n hC d_Queue_init_15 rfl rfl ?_
            refine x_bipush hC d_Queue_init_16 (v := nI 8) (by decide) ?_
            refine x_icmpN_ge hC d_Queue_init_18 (tgt := 40) (by decide) (by omega) (by omega) (fun c_18 => ?_) (fun c_18 => ?_)
            · skip
              exact absurd c_18 (by omega)
            · skip
              refine x_aload_n hC d_Queue_init_21 rfl rfl ?_
              refine x_getf hC kf_Queue_11 h0 rfl d_Queue_init_22 ?_
              refine x_iload_n hC d_Queue_init_25 rfl rfl ?_
              refine x_new hC (fs := [.null, .int (nI 0), .int (nI 0)]) kn_Queue_9 (by decide) d_Queue_init_26 ?_
              generalize e23 : xup F22 (q + 17) (.inl (3, [.null, .int (nI 0), .int (nI 0)])) = F23
              have h0 : F23 (q) = some (.inl (5, [.ref (q + 1), .int (nI 0), .int (nI 0)])) := by rw [← e23]; exact (xup_ne (by omega)).trans h0
              have h1 : F23 (q + 1) = some (.inr (5, 8, gw21)) := by rw [← e23]; exact (xup_ne (by omega)).trans h1
              have hz2 : xMs F23 ((q + 2)) (0) (0) (0) ((fun _ => 0)) := xMs_fr hz2 (fun a9 q1 q2 => by rw [← e23]; exact xup_ne (by omega))
              have hz3 : xMs F23 ((q + 5)) (0) (0) (0) ((fun _ => 0)) := xMs_fr hz3 (fun a9 q1 q2 => by rw [← e23]; exact xup_ne (by omega))
              have hz4 : xMs F23 ((q + 8)) (0) (0) (0) ((fun _ => 0)) := xMs_fr hz4 (fun a9 q1 q2 => by rw [← e23]; exact xup_ne (by omega))
              have hz5 : xMs F23 ((q + 11)) (0) (0) (0) ((fun _ => 0)) := xMs_fr hz5 (fun a9 q1 q2 => by rw [← e23]; exact xup_ne (by omega))
              have hz6 : xMs F23 ((q + 14)) (0) (0) (0) ((fun _ => 0)) := xMs_fr hz6 (fun a9 q1 q2 => by rw [← e23]; exact xup_ne (by omega))
              have hz7 : F23 (q + 17) = some (.inl (3, [.null, .int (nI 0), .int (nI 0)])) := by rw [← e23]; exact xup_eq
              have hag : ∀ a9 : Nat, (a9 < q ∨ q + 26 ≤ a9) → F23 a9 = F a9 := fun a9 q0 => by rw [← e23]; exact (xup_ne (by omega)).trans (hag a9 q0)
              refine x_dup hC d_Queue_init_29 rfl ?_
              refine x_callI hC ki_Queue_17 rfl (c_Message_init (h0 := hz7)) (by decide) rfl rfl rfl (Nat.le_of_ble_eq_true rfl) (by decide) d_Queue_init_30 (fun r9 F9 z9 hp9 => ?_)
              obtain ⟨rfl, h9c, j0, hag9⟩ := hp9
              rw [h9c]
              clear h9c z9
              generalize F9 = F24 at *
              have h0 : F24 (q) = some (.inl (5, [.ref (q + 1), .int (nI 0), .int (nI 0)])) := (hag9 _ (by omega)).trans h0
              have h1 : F24 (q + 1) = some (.inr (5, 8, gw21)) := (hag9 _ (by omega)).trans h1
              have hz2 : xMs F24 ((q + 2)) (0) (0) (0) ((fun _ => 0)) := xMs_fr hz2 (fun a9 q1 q2 => hag9 a9 (by omega))
              have hz3 : xMs F24 ((q + 5)) (0) (0) (0) ((fun _ => 0)) := xMs_fr hz3 (fun a9 q1 q2 => hag9 a9 (by omega))
              have hz4 : xMs F24 ((q + 8)) (0) (0) (0) ((fun _ => 0)) := xMs_fr hz4 (fun a9 q1 q2 => hag9 a9 (by omega))
              have hz5 : xMs F24 ((q + 11)) (0) (0) (0) ((fun _ => 0)) := xMs_fr hz5 (fun a9 q1 q2 => hag9 a9 (by omega))
              have hz6 : xMs F24 ((q + 14)) (0) (0) (0) ((fun _ => 0)) := xMs_fr hz6 (fun a9 q1 q2 => hag9 a9 (by omega))
              have hz7 : xMs F24 ((q + 17)) (0) (0) (0) ((fun _ => 0)) := j0
              have hag : ∀ a9 : Nat, (a9 < q ∨ q + 26 ≤ a9) → F24 a9 = F a9 := fun a9 q0 => (hag9 a9 (by omega)).trans (hag a9 q0)
              have hg_30 := hag9
              clear hag9
              refine x_aast hC h1 (by decide) rfl hz7.1 rfl (j := 5) ⟨rfl, by omega, by omega⟩ d_Queue_init_33 (f1 := updV gw21 (5) (.ref (q + 17))) rfl ?_
              generalize eg25 : updV gw21 (5) (.ref (q + 17)) = gw25
              generalize e26 : xup F24 (q + 1) (.inr (5, 8, gw25)) = F26
              have h0 : F26 (q) = some (.inl (5, [.ref (q + 1), .int (nI 0), .int (nI 0)])) := by rw [← e26]; exact (xup_ne (by omega)).trans h0
              have h1 : F26 (q + 1) = some (.inr (5, 8, gw25)) := by rw [← e26]; exact xup_eq
              have hz2 : xMs F26 ((q + 2)) (0) (0) (0) ((fun _ => 0)) := xMs_fr hz2 (fun a9 q1 q2 => by rw [← e26]; exact xup_ne (by omega))
              have hz3 : xMs F26 ((q + 5)) (0) (0) (0) ((fun _ => 0)) := xMs_fr hz3 (fun a9 q1 q2 => by rw [← e26]; exact xup_ne (by omega))
              have hz4 : xMs F26 ((q + 8)) (0) (0) (0) ((fun _ => 0)) := xMs_fr hz4 (fun a9 q1 q2 => by rw [← e26]; exact xup_ne (by omega))
              have hz5 : xMs F26 ((q + 11)) (0) (0) (0) ((fun _ => 0)) := xMs_fr hz5 (fun a9 q1 q2 => by rw [← e26]; exact xup_ne (by omega))
              have hz6 : xMs F26 ((q + 14)) (0) (0) (0) ((fun _ => 0)) := xMs_fr hz6 (fun a9 q1 q2 => by rw [← e26]; exact xup_ne (by omega))
              have hz7 : xMs F26 ((q + 17)) (0) (0) (0) ((fun _ => 0)) := xMs_fr hz7 (fun a9 q1 q2 => by rw [← e26]; exact xup_ne (by omega))
              have hag : ∀ a9 : Nat, (a9 < q ∨ q + 26 ≤ a9) → F26 a9 = F a9 := fun a9 q0 => by rw [← e26]; exact (xup_ne (by omega)).trans (hag a9 q0)
              refine x_iinc hC d_Queue_init_34 rfl (v := (nI (6))) (x_incN 1) (Nat.le_of_ble_eq_true rfl) (L1 := [some (.ref q), some (.int (nI 6))]) rfl ?_
              refine x_goto hC d_Queue_init_37 (tgt := 15) (by decide) ?_
              refine x_iload_n hC d_Queue_init_15 rfl rfl ?_
              refine x_bipush hC d_Queue_init_16 (v := nI 8) (by decide) ?_
              refine x_icmpN_ge hC d_Queue_init_18 (tgt := 40) (by decide) (by omega) (by omega) (fun c_18 => ?_) (fun c_18 => ?_)
              · skip
                exact absurd c_18 (by omega)
              · skip
                refine x_aload_n hC d_Queue_init_21 rfl rfl ?_
                refine x_getf hC kf_Queue_11 h0 rfl d_Queue_init_22 ?_
                refine x_iload_n hC d_Queue_init_25 rfl rfl ?_
                refine x_new hC (fs := [.null, .int (nI 0), .int (nI 0)]) kn_Queue_9 (by decide) d_Queue_init_26 ?_
                generalize e27 : xup F26 (q + 20) (.inl (3, [.null, .int (nI 0), .int (nI 0)])) = F27
                have h0 : F27 (q) = some (.inl (5, [.ref (q + 1), .int (nI 0), .int (nI 0)])) := by rw [← e27]; exact (xup_ne (by omega)).trans h0
                have h1 : F27 (q + 1) = some (.inr (5, 8, gw25)) := by rw [← e27]; exact (xup_ne (by omega)).trans h1
                have hz2 : xMs F27 ((q + 2)) (0) (0) (0) ((fun _ => 0)) := xMs_fr hz2 (fun a9 q1 q2 => by rw [← e27]; exact xup_ne (by omega))
                have hz3 : xMs F27 ((q + 5)) (0) (0) (0) ((fun _ => 0)) := xMs_fr hz3 (fun a9 q1 q2 => by rw [← e27]; exact xup_ne (by omega))
                have hz4 : xMs F27 ((q + 8)) (0) (0) (0) ((fun _ => 0)) := xMs_fr hz4 (fun a9 q1 q2 => by rw [← e27]; exact xup_ne (by omega))
                have hz5 : xMs F27 ((q + 11)) (0) (0) (0) ((fun _ => 0)) := xMs_fr hz5 (fun a9 q1 q2 => by rw [← e27]; exact xup_ne (by omega))
                have hz6 : xMs F27 ((q + 14)) (0) (0) (0) ((fun _ => 0)) := xMs_fr hz6 (fun a9 q1 q2 => by rw [← e27]; exact xup_ne (by omega))
                have hz7 : xMs F27 ((q + 17)) (0) (0) (0) ((fun _ => 0)) := xMs_fr hz7 (fun a9 q1 q2 => by rw [← e27]; exact xup_ne (by omega))
                have hz8 : F27 (q + 20) = some (.inl (3, [.null, .int (nI 0), .int (nI 0)])) := by rw [← e27]; exact xup_eq
                have hag : ∀ a9 : Nat, (a9 < q ∨ q + 26 ≤ a9) → F27 a9 = F a9 := fun a9 q0 => by rw [← e27]; exact (xup_ne (by omega)).trans (hag a9 q0)
                refine x_dup hC d_Queue_init_29 rfl ?_
                refine x_callI hC ki_Queue_17 rfl (c_Message_init (h0 := hz8)) (by decide) rfl rfl rfl (Nat.le_of_ble_eq_true rfl) (by decide) d_Queue_init_30 (fun r9 F9 z9 hp9 => ?_)
                obtain ⟨rfl, h9c, j0, hag9⟩ := hp9
                rw [h9c]
                clear h9c z9
                generalize F9 = F28 at *
                have h0 : F28 (q) = some (.inl (5, [.ref (q + 1), .int (nI 0), .int (nI 0)])) := (hag9 _ (by omega)).trans h0
                have h1 : F28 (q + 1) = some (.inr (5, 8, gw25)) := (hag9 _ (by omega)).trans h1
                have hz2 : xMs F28 ((q + 2)) (0) (0) (0) ((fun _ => 0)) := xMs_fr hz2 (fun a9 q1 q2 => hag9 a9 (by omega))
                have hz3 : xMs F28 ((q + 5)) (0) (0) (0) ((fun _ => 0)) := xMs_fr hz3 (fun a9 q1 q2 => hag9 a9 (by omega))
                have hz4 : xMs F28 ((q + 8)) (0) (0) (0) ((fun _ => 0)) := xMs_fr hz4 (fun a9 q1 q2 => hag9 a9 (by omega))
                have hz5 : xMs F28 ((q + 11)) (0) (0) (0) ((fun _ => 0)) := xMs_fr hz5 (fun a9 q1 q2 => hag9 a9 (by omega))
                have hz6 : xMs F28 ((q + 14)) (0) (0) (0) ((fun _ => 0)) := xMs_fr hz6 (fun a9 q1 q2 => hag9 a9 (by omega))
                have hz7 : xMs F28 ((q + 17)) (0) (0) (0) ((fun _ => 0)) := xMs_fr hz7 (fun a9 q1 q2 => hag9 a9 (by omega))
                have hz8 : xMs F28 ((q + 20)) (0) (0) (0) ((fun _ => 0)) := j0
                have hag : ∀ a9 : Nat, (a9 < q ∨ q + 26 ≤ a9) → F28 a9 = F a9 := fun a9 q0 => (hag9 a9 (by omega)).trans (hag a9 q0)
                have hg_30 := hag9
                clear hag9
                refine x_aast hC h1 (by decide) rfl hz8.1 rfl (j := 6) ⟨rfl, by omega, by omega⟩ d_Queue_init_33 (f1 := updV gw25 (6) (.ref (q + 20))) rfl ?_
                generalize eg29 : updV gw25 (6) (.ref (q + 20)) = gw29
                generalize e30 : xup F28 (q + 1) (.inr (5, 8, gw29)) = F30
                have h0 : F30 (q) = some (.inl (5, [.ref (q + 1), .int (nI 0), .int (nI 0)])) := by rw [← e30]; exact (xup_ne (by omega)).trans h0
                have h1 : F30 (q + 1) = some (.inr (5, 8, gw29)) := by rw [← e30]; exact xup_eq
                have hz2 : xMs F30 ((q + 2)) (0) (0) (0) ((fun _ => 0)) := xMs_fr hz2 (fun a9 q1 q2 => by rw [← e30]; exact xup_ne (by omega))
                have hz3 : xMs F30 ((q + 5)) (0) (0) (0) ((fun _ => 0)) := xMs_fr hz3 (fun a9 q1 q2 => by rw [← e30]; exact xup_ne (by omega))
                have hz4 : xMs F30 ((q + 8)) (0) (0) (0) ((fun _ => 0)) := xMs_fr hz4 (fun a9 q1 q2 => by rw [← e30]; exact xup_ne (by omega))
                have hz5 : xMs F30 ((q + 11)) (0) (0) (0) ((fun _ => 0)) := xMs_fr hz5 (fun a9 q1 q2 => by rw [← e30]; exact xup_ne (by omega))
                have hz6 : xMs F30 ((q + 14)) (0) (0) (0) ((fun _ => 0)) := xMs_fr hz6 (fun a9 q1 q2 => by rw [← e30]; exact xup_ne (by omega))
                have hz7 : xMs F30 ((q + 17)) (0) (0) (0) ((fun _ => 0)) := xMs_fr hz7 (fun a9 q1 q2 => by rw [← e30]; exact xup_ne (by omega))
                have hz8 : xMs F30 ((q + 20)) (0) (0) (0) ((fun _ => 0)) := xMs_fr hz8 (fun a9 q1 q2 => by rw [← e30]; exact xup_ne (by omega))
                have hag : ∀ a9 : Nat, (a9 < q ∨ q + 26 ≤ a9) → F30 a9 = F a9 := fun a9 q0 => by rw [← e30]; exact (xup_ne (by omega)).trans (hag a9 q0)
                refine x_iinc hC d_Queue_init_34 rfl (v := (nI (7))) (x_incN 1) (Nat.le_of_ble_eq_true rfl) (L1 := [some (.ref q), some (.int (nI 7))]) rfl ?_
                refine x_goto hC d_Queue_init_37 (tgt := 15) (by decide) ?_
                refine x_iload_n hC d_Queue_init_15 rfl rfl ?_
                refine x_bipush hC d_Queue_init_16 (v := nI 8) (by decide) ?_
                refine x_icmpN_ge hC d_Queue_init_18 (tgt := 40) (by decide) (by omega) (by omega) (fun c_18 => ?_) (fun c_18 => ?_)
                · skip
                  exact absurd c_18 (by omega)
                · skip
                  refine x_aload_n hC d_Queue_init_21 rfl rfl ?_
                  refine x_getf hC kf_Queue_11 h0 rfl d_Queue_init_22 ?_
                  refine x_iload_n hC d_Queue_init_25 rfl rfl ?_
                  refine x_new hC (fs := [.null, .int (nI 0), .int (nI 0)]) kn_Queue_9 (by decide) d_Queue_init_26 ?_
                  generalize e31 : xup F30 (q + 23) (.inl (3, [.null, .int (nI 0), .int (nI 0)])) = F31
                  have h0 : F31 (q) = some (.inl (5, [.ref (q + 1), .int (nI 0), .int (nI 0)])) := by rw [← e31]; exact (xup_ne (by omega)).trans h0
                  have h1 : F31 (q + 1) = some (.inr (5, 8, gw29)) := by rw [← e31]; exact (xup_ne (by omega)).trans h1
                  have hz2 : xMs F31 ((q + 2)) (0) (0) (0) ((fun _ => 0)) := xMs_fr hz2 (fun a9 q1 q2 => by rw [← e31]; exact xup_ne (by omega))
                  have hz3 : xMs F31 ((q + 5)) (0) (0) (0) ((fun _ => 0)) := xMs_fr hz3 (fun a9 q1 q2 => by rw [← e31]; exact xup_ne (by omega))
                  have hz4 : xMs F31 ((q + 8)) (0) (0) (0) ((fun _ => 0)) := xMs_fr hz4 (fun a9 q1 q2 => by rw [← e31]; exact xup_ne (by omega))
                  have hz5 : xMs F31 ((q + 11)) (0) (0) (0) ((fun _ => 0)) := xMs_fr hz5 (fun a9 q1 q2 => by rw [← e31]; exact xup_ne (by omega))
                  have hz6 : xMs F31 ((q + 14)) (0) (0) (0) ((fun _ => 0)) := xMs_fr hz6 (fun a9 q1 q2 => by rw [← e31]; exact xup_ne (by omega))
                  have hz7 : xMs F31 ((q + 17)) (0) (0) (0) ((fun _ => 0)) := xMs_fr hz7 (fun a9 q1 q2 => by rw [← e31]; exact xup_ne (by omega))
                  have hz8 : xMs F31 ((q + 20)) (0) (0) (0) ((fun _ => 0)) := xMs_fr hz8 (fun a9 q1 q2 => by rw [← e31]; exact xup_ne (by omega))
                  have hz9 : F31 (q + 23) = some (.inl (3, [.null, .int (nI 0), .int (nI 0)])) := by rw [← e31]; exact xup_eq
                  have hag : ∀ a9 : Nat, (a9 < q ∨ q + 26 ≤ a9) → F31 a9 = F a9 := fun a9 q0 => by rw [← e31]; exact (xup_ne (by omega)).trans (hag a9 q0)
                  refine x_dup hC d_Queue_init_29 rfl ?_
                  refine x_callI hC ki_Queue_17 rfl (c_Message_init (h0 := hz9)) (by decide) rfl rfl rfl (Nat.le_of_ble_eq_true rfl) (by decide) d_Queue_init_30 (fun r9 F9 z9 hp9 => ?_)
                  obtain ⟨rfl, h9c, j0, hag9⟩ := hp9
                  rw [h9c]
                  clear h9c z9
                  generalize F9 = F32 at *
                  have h0 : F32 (q) = some (.inl (5, [.ref (q + 1), .int (nI 0), .int (nI 0)])) := (hag9 _ (by omega)).trans h0
                  have h1 : F32 (q + 1) = some (.inr (5, 8, gw29)) := (hag9 _ (by omega)).trans h1
                  have hz2 : xMs F32 ((q + 2)) (0) (0) (0) ((fun _ => 0)) := xMs_fr hz2 (fun a9 q1 q2 => hag9 a9 (by omega))
                  have hz3 : xMs F32 ((q + 5)) (0) (0) (0) ((fun _ => 0)) := xMs_fr hz3 (fun a9 q1 q2 => hag9 a9 (by omega))
                  have hz4 : xMs F32 ((q + 8)) (0) (0) (0) ((fun _ => 0)) := xMs_fr hz4 (fun a9 q1 q2 => hag9 a9 (by omega))
                  have hz5 : xMs F32 ((q + 11)) (0) (0) (0) ((fun _ => 0)) := xMs_fr hz5 (fun a9 q1 q2 => hag9 a9 (by omega))
                  have hz6 : xMs F32 ((q + 14)) (0) (0) (0) ((fun _ => 0)) := xMs_fr hz6 (fun a9 q1 q2 => hag9 a9 (by omega))
                  have hz7 : xMs F32 ((q + 17)) (0) (0) (0) ((fun _ => 0)) := xMs_fr hz7 (fun a9 q1 q2 => hag9 a9 (by omega))
                  have hz8 : xMs F32 ((q + 20)) (0) (0) (0) ((fun _ => 0)) := xMs_fr hz8 (fun a9 q1 q2 => hag9 a9 (by omega))
                  have hz9 : xMs F32 ((q + 23)) (0) (0) (0) ((fun _ => 0)) := j0
                  have hag : ∀ a9 : Nat, (a9 < q ∨ q + 26 ≤ a9) → F32 a9 = F a9 := fun a9 q0 => (hag9 a9 (by omega)).trans (hag a9 q0)
                  have hg_30 := hag9
                  clear hag9
                  refine x_aast hC h1 (by decide) rfl hz9.1 rfl (j := 7) ⟨rfl, by omega, by omega⟩ d_Queue_init_33 (f1 := updV gw29 (7) (.ref (q + 23))) rfl ?_
                  generalize eg33 : updV gw29 (7) (.ref (q + 23)) = gw33
                  generalize e34 : xup F32 (q + 1) (.inr (5, 8, gw33)) = F34
                  have h0 : F34 (q) = some (.inl (5, [.ref (q + 1), .int (nI 0), .int (nI 0)])) := by rw [← e34]; exact (xup_ne (by omega)).trans h0
                  have h1 : F34 (q + 1) = some (.inr (5, 8, gw33)) := by rw [← e34]; exact xup_eq
                  have hz2 : xMs F34 ((q + 2)) (0) (0) (0) ((fun _ => 0)) := xMs_fr hz2 (fun a9 q1 q2 => by rw [← e34]; exact xup_ne (by omega))
                  have hz3 : xMs F34 ((q + 5)) (0) (0) (0) ((fun _ => 0)) := xMs_fr hz3 (fun a9 q1 q2 => by rw [← e34]; exact xup_ne (by omega))
                  have hz4 : xMs F34 ((q + 8)) (0) (0) (0) ((fun _ => 0)) := xMs_fr hz4 (fun a9 q1 q2 => by rw [← e34]; exact xup_ne (by omega))
                  have hz5 : xMs F34 ((q + 11)) (0) (0) (0) ((fun _ => 0)) := xMs_fr hz5 (fun a9 q1 q2 => by rw [← e34]; exact xup_ne (by omega))
                  have hz6 : xMs F34 ((q + 14)) (0) (0) (0) ((fun _ => 0)) := xMs_fr hz6 (fun a9 q1 q2 => by rw [← e34]; exact xup_ne (by omega))
                  have hz7 : xMs F34 ((q + 17)) (0) (0) (0) ((fun _ => 0)) := xMs_fr hz7 (fun a9 q1 q2 => by rw [← e34]; exact xup_ne (by omega))
                  have hz8 : xMs F34 ((q + 20)) (0) (0) (0) ((fun _ => 0)) := xMs_fr hz8 (fun a9 q1 q2 => by rw [← e34]; exact xup_ne (by omega))
                  have hz9 : xMs F34 ((q + 23)) (0) (0) (0) ((fun _ => 0)) := xMs_fr hz9 (fun a9 q1 q2 => by rw [← e34]; exact xup_ne (by omega))
                  have hag : ∀ a9 : Nat, (a9 < q ∨ q + 26 ≤ a9) → F34 a9 = F a9 := fun a9 q0 => by rw [← e34]; exact (xup_ne (by omega)).trans (hag a9 q0)
                  refine x_iinc hC d_Queue_init_34 rfl (v := (nI (8))) (x_incN 1) (Nat.le_of_ble_eq_true rfl) (L1 := [some (.ref q), some (.int (nI 8))]) rfl ?_
                  refine x_goto hC d_Queue_init_37 (tgt := 15) (by decide) ?_
                  refine x_iload_n hC d_Queue_init_15 rfl rfl ?_
                  refine x_bipush hC d_Queue_init_16 (v := nI 8) (by decide) ?_
                  refine x_icmpN_ge hC d_Queue_init_18 (tgt := 40) (by decide) (by omega) (by omega) (fun c_18 => ?_) (fun c_18 => ?_)
                  · skip
                    refine hret _ _ _ _ _ _ d_Queue_init_40 (by decide) (by decide) ?_
                    subst eg5
                    subst eg9
                    subst eg13
                    subst eg17
                    subst eg21
                    subst eg25
                    subst eg29
                    subst eg33
                    exact ⟨rfl, rfl, ⟨h0, ⟨by omega, by omega⟩, ⟨_, h1, all8 rfl rfl rfl rfl rfl rfl rfl rfl⟩, ⟨fun i hi => hi, fun i hi j hj e => e, all8 hz2 hz3 hz4 hz5 hz6 hz7 hz8 hz9⟩⟩, hag⟩
                  · skip
                    exact absurd c_18 (by omega)

