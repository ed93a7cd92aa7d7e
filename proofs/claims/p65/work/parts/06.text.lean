/-- a text at t: room for cap signs, n of them, s -/
def xTx (F : xF) (t cap n : Nat) (s : Nat → Nat) : Prop := F t = some (.inl (8, [.ref (t + 1), .int (nI n)])) ∧ (n ≤ cap ∧ cap ≤ 1000) ∧ (∀ j, j < n → s j < 65536) ∧ ∃ s1 : Nat → Nat, F (t + 1) = some (.inr (1, cap, fun b => .int (nI (s1 b)))) ∧ ∀ j, j < n → s1 j = s j
theorem xTx_fr {F F1 : xF} {t cap n : Nat} {s : Nat → Nat} (h : xTx F t cap n s) (hf : ∀ a, t ≤ a → a < t + 2 → F1 a = F a) : xTx F1 t cap n s := by
  obtain ⟨h1, h2, h3, s1, h4, h5⟩ := h
  exact ⟨(hf t (by omega) (by omega)).trans h1, h2, h3, s1, (hf (t + 1) (by omega) (by omega)).trans h4, h5⟩
theorem xTx_ext {F : xF} {t cap n : Nat} {s s2 : Nat → Nat} (h : xTx F t cap n s) (hs : ∀ j, j < n → s j = s2 j) : xTx F t cap n s2 := by
  obtain ⟨h1, h2, h3, s1, h4, h5⟩ := h
  exact ⟨h1, h2, fun j hj => by rw [← hs j hj]; exact h3 j hj, s1, h4, fun j hj => by rw [h5 j hj]; exact hs j hj⟩
def xcat (s : Nat → Nat) (n : Nat) (u : Nat → Nat) : Nat → Nat := fun j => if j < n then s j else u (j - n)
/-- decimal digits of a number below 1000 -/
def dgs (v : Nat) : Nat := if v < 10 then 1 else if v < 100 then 2 else 3
def dgc (v j : Nat) : Nat := 48 + v / 10 ^ (dgs v - 1 - j) % 10
/-- the longest common subsequence of the first i of a and the first j of b -/
def lcs (a b : Nat → Nat) : Nat → Nat → Nat
  | 0, _ => 0
  | _ + 1, 0 => 0
  | i + 1, j + 1 => if a i = b j then lcs a b i j + 1 else if lcs a b i (j + 1) < lcs a b (i + 1) j then lcs a b (i + 1) j else lcs a b i (j + 1)
def tmOf (s : Nat → Nat) (c : Nat) : Nat → Nat
  | 0 => 0
  | n + 1 => if s n = c then tmOf s c n + 1 else tmOf s c n
theorem tmOf_le (s : Nat → Nat) (c : Nat) : ∀ n, tmOf s c n ≤ n
  | 0 => Nat.le_refl 0
  | n + 1 => by
    unfold tmOf
    have := tmOf_le s c n
    split <;> omega
theorem lcs_0 (a b : Nat → Nat) : ∀ i, lcs a b i 0 = 0
  | 0 => by unfold lcs; rfl
  | _ + 1 => by unfold lcs; rfl
theorem lcs_le (a b : Nat → Nat) : ∀ i j, lcs a b i j ≤ j
  | 0, _ => by unfold lcs; omega
  | _ + 1, 0 => by unfold lcs; omega
  | i + 1, j + 1 => by
    have h1 := lcs_le a b i j
    have h2 := lcs_le a b i (j + 1)
    have h3 := lcs_le a b (i + 1) j
    unfold lcs
    split
    · omega
    · split <;> omega

theorem d_Text_has_0 : decode prog_12_method_2_code 0 = .ok (.iload_n 1, 1) := by decide +kernel
theorem d_Text_has_1 : decode prog_12_method_2_code 1 = .ok (.ifCond .lt 15, 3) := by decide +kernel
theorem d_Text_has_4 : decode prog_12_method_2_code 4 = .ok (.iload_n 1, 1) := by decide +kernel
theorem d_Text_has_5 : decode prog_12_method_2_code 5 = .ok (.aload_n 0, 1) := by decide +kernel
theorem d_Text_has_6 : decode prog_12_method_2_code 6 = .ok (.getfield 21, 3) := by decide +kernel
theorem d_Text_has_9 : decode prog_12_method_2_code 9 = .ok (.if_icmp .ge 7, 3) := by decide +kernel
theorem d_Text_has_12 : decode prog_12_method_2_code 12 = .ok (.iconst 1, 1) := by decide +kernel
theorem d_Text_has_13 : decode prog_12_method_2_code 13 = .ok (.goto 4, 3) := by decide +kernel
theorem d_Text_has_16 : decode prog_12_method_2_code 16 = .ok (.iconst 0, 1) := by decide +kernel
theorem d_Text_has_17 : decode prog_12_method_2_code 17 = .ok (.ireturn, 1) := by decide +kernel
set_option maxHeartbeats 4000000 in
set_option maxRecDepth 20000 in
theorem c_Text_hasN {P : xP} {F : xF} {z : Nat} {t : Nat} {cap : Nat} {n : Nat} {s : Nat → Nat} {i : Nat} (ht : xTx F (t) (cap) (n) (s)) (hi : i < 2 ^ 31) : xM P xy_Text_has [.ref t, .int (nI (i))] F (z) 0 0 (fun r9 F9 z9 => r9 = some (.int (xb (i < n))) ∧ F9 = F ∧ z9 = z) := by
  refine xM_i .boolean rfl (Nat.le_of_ble_eq_true rfl) (L0 := [some (.ref t), some (.int (nI (i)))]) rfl rfl fun Θ hC hret => ?_
  obtain ⟨h0ht, ⟨hcht, hkht⟩, hsht, sht, h1ht, hqht⟩ := ht
  refine x_iload_n hC d_Text_has_0 rfl rfl ?_
  refine x_ifN_lt hC d_Text_has_1 (tgt := 16) (by decide) (by omega) (fun c_1 => ?_) (fun c_1 => ?_)
  · skip
    exact c_1.elim
  · skip
    refine x_iload_n hC d_Text_has_4 rfl rfl ?_
    refine x_aload_n hC d_Text_has_5 rfl rfl ?_
    refine x_getf hC kf_Text_21 h0ht rfl d_Text_has_6 ?_
    refine x_icmpN_ge hC d_Text_has_9 (tgt := 16) (by decide) (by omega) (by omega) (fun c_9 => ?_) (fun c_9 => ?_)
    · skip
      refine x_iconst hC d_Text_has_16 (v := nI 0) (by decide) ?_
      exact hret _ _ _ _ _ _ _ d_Text_has_17 (by decide) (by decide) rfl (⟨congrArg (fun q => some (Value.int q)) (xb_f0 (by omega)), rfl, rfl⟩)
    · skip
      refine x_iconst hC d_Text_has_12 (v := nI 1) (by decide) ?_
      refine x_goto hC d_Text_has_13 (tgt := 17) (by decide) ?_
      exact hret _ _ _ _ _ _ _ d_Text_has_17 (by decide) (by decide) rfl (⟨congrArg (fun q => some (Value.int q)) (xb_t1 (by omega)), rfl, rfl⟩)

set_option maxHeartbeats 4000000 in
set_option maxRecDepth 20000 in
theorem c_Text_has {P : xP} {F : xF} {z : Nat} {t : Nat} {cap : Nat} {n : Nat} {s : Nat → Nat} {i : Int32} (ht : xTx F (t) (cap) (n) (s))  : xM P xy_Text_has [.ref t, .int i] F (z) 0 0 (fun r9 F9 z9 => r9 = some (.int (xb (0 ≤ i ∧ i < nI n))) ∧ F9 = F ∧ z9 = z) := by
  refine xM_i .boolean rfl (Nat.le_of_ble_eq_true rfl) (L0 := [some (.ref t), some (.int i)]) rfl rfl fun Θ hC hret => ?_
  obtain ⟨h0ht, ⟨hcht, hkht⟩, hsht, sht, h1ht, hqht⟩ := ht
  refine x_iload_n hC d_Text_has_0 rfl rfl ?_
  refine x_if_lt hC d_Text_has_1 (tgt := 16) (by decide) (fun c_1 => ?_) (fun c_1 => ?_)
  · skip
    refine x_iconst hC d_Text_has_16 (v := nI 0) (by decide) ?_
    exact hret _ _ _ _ _ _ _ d_Text_has_17 (by decide) (by decide) rfl (⟨congrArg (fun q => some (Value.int q)) (xb_f0 (fun h9 => k2_nlt h9.1 c_1)), rfl, rfl⟩)
  · skip
    refine x_iload_n hC d_Text_has_4 rfl rfl ?_
    refine x_aload_n hC d_Text_has_5 rfl rfl ?_
    refine x_getf hC kf_Text_21 h0ht rfl d_Text_has_6 ?_
    refine x_icmp_ge hC d_Text_has_9 (tgt := 16) (by decide) (fun c_9 => ?_) (fun c_9 => ?_)
    · skip
      refine x_iconst hC d_Text_has_16 (v := nI 0) (by decide) ?_
      exact hret _ _ _ _ _ _ _ d_Text_has_17 (by decide) (by decide) rfl (⟨congrArg (fun q => some (Value.int q)) (xb_f0 (fun h9 => k2_nle h9.2 c_9)), rfl, rfl⟩)
    · skip
      refine x_iconst hC d_Text_has_12 (v := nI 1) (by decide) ?_
      refine x_goto hC d_Text_has_13 (tgt := 17) (by decide) ?_
      exact hret _ _ _ _ _ _ _ d_Text_has_17 (by decide) (by decide) rfl (⟨congrArg (fun q => some (Value.int q)) (xb_t1 ⟨k2_le c_1, k2_lt c_9⟩), rfl, rfl⟩)

theorem d_Text_at_0 : decode prog_12_method_3_code 0 = .ok (.aload_n 0, 1) := by decide +kernel
theorem d_Text_at_1 : decode prog_12_method_3_code 1 = .ok (.iload_n 1, 1) := by decide +kernel
theorem d_Text_at_2 : decode prog_12_method_3_code 2 = .ok (.invokevirtual 25, 3) := by decide +kernel
theorem d_Text_at_5 : decode prog_12_method_3_code 5 = .ok (.ifCond .eq 12, 3) := by decide +kernel
theorem d_Text_at_8 : decode prog_12_method_3_code 8 = .ok (.aload_n 0, 1) := by decide +kernel
theorem d_Text_at_9 : decode prog_12_method_3_code 9 = .ok (.getfield 15, 3) := by decide +kernel
theorem d_Text_at_12 : decode prog_12_method_3_code 12 = .ok (.iload_n 1, 1) := by decide +kernel
theorem d_Text_at_13 : decode prog_12_method_3_code 13 = .ok (.caload, 1) := by decide +kernel
theorem d_Text_at_14 : decode prog_12_method_3_code 14 = .ok (.goto 4, 3) := by decide +kernel
theorem d_Text_at_17 : decode prog_12_method_3_code 17 = .ok (.iconst 0, 1) := by decide +kernel
theorem d_Text_at_18 : decode prog_12_method_3_code 18 = .ok (.ireturn, 1) := by decide +kernel
set_option maxHeartbeats 4000000 in
set_option maxRecDepth 20000 in
theorem c_Text_at {P : xP} {F : xF} {z : Nat} {t : Nat} {cap : Nat} {n : Nat} {s : Nat → Nat} {i : Nat} (ht : xTx F (t) (cap) (n) (s)) (hi : i < 2 ^ 31) : xM P xy_Text_at [.ref t, .int (nI (i))] F (z) 0 0 (fun r9 F9 z9 => r9 = some (.int (nI (if i < n then s i else 0))) ∧ F9 = F ∧ z9 = z) := by
  refine xM_i .char rfl (Nat.le_of_ble_eq_true rfl) (L0 := [some (.ref t), some (.int (nI (i)))]) rfl rfl fun Θ hC hret => ?_
  obtain ⟨_, hck, hst, st, h1t, hqt⟩ := id ht
  refine x_aload_n hC d_Text_at_0 rfl rfl ?_
  refine x_iload_n hC d_Text_at_1 rfl rfl ?_
  refine x_callV hC kv_Text_25 (c_Text_hasN (ht := ht) (hi := by omega)) ht.1 rfl rfl (by decide) rfl rfl rfl (Nat.le_of_ble_eq_true rfl) (by decide) d_Text_at_2 (fun r9 F9 z9 hp9 => ?_)
  obtain ⟨rfl, h9b, h9c⟩ := hp9
  rw [h9b, h9c]
  clear h9b h9c F9 z9
  refine x_ifB_eq hC d_Text_at_5 (tgt := 17) (by decide) (fun c_5 => ?_) (fun c_5 => ?_)
  · skip
    refine x_iconst hC d_Text_at_17 (v := nI 0) (by decide) ?_
    exact hret _ _ _ _ _ _ _ d_Text_at_18 (by decide) (by decide) (x_char _ (by first | (rw [hqt i (by omega)]; exact hst i (by omega)) | decide)) (⟨congrArg (fun q => some (Value.int (nI q))) ((if_neg (by omega)).symm), rfl, rfl⟩)
  · skip
    refine x_aload_n hC d_Text_at_8 rfl rfl ?_
    refine x_getf hC kf_Text_15 ht.1 rfl d_Text_at_9 ?_
    refine x_iload_n hC d_Text_at_12 rfl rfl ?_
    refine x_cald hC h1t (j := i) ⟨rfl, by omega, by omega⟩ (x := nI (st (i))) rfl d_Text_at_13 ?_
    refine x_goto hC d_Text_at_14 (tgt := 18) (by decide) ?_
    exact hret _ _ _ _ _ _ _ d_Text_at_18 (by decide) (by decide) (x_char _ (by first | (rw [hqt i (by omega)]; exact hst i (by omega)) | decide)) (⟨congrArg (fun q => some (Value.int (nI q))) ((hqt i (by omega)).trans (if_pos (by omega)).symm), rfl, rfl⟩)

theorem d_Text_clear_0 : decode prog_12_method_4_code 0 = .ok (.aload_n 0, 1) := by decide +kernel
theorem d_Text_clear_1 : decode prog_12_method_4_code 1 = .ok (.iconst 0, 1) := by decide +kernel
theorem d_Text_clear_2 : decode prog_12_method_4_code 2 = .ok (.putfield 21, 3) := by decide +kernel
theorem d_Text_clear_5 : decode prog_12_method_4_code 5 = .ok (.return_, 1) := by decide +kernel
set_option maxHeartbeats 4000000 in
set_option maxRecDepth 20000 in
theorem c_Text_clear {P : xP} {F : xF} {z : Nat} {t : Nat} {cap : Nat} {n : Nat} {s : Nat → Nat} (ht : xTx F (t) (cap) (n) (s))  : xM P xy_Text_clear [.ref t] F (z) 0 0 (fun r9 F9 z9 => r9 = none ∧ z9 = z ∧ xTx F9 (t) (cap) (0) (s) ∧ (∀ a9 : Nat, (a9 < t ∨ t + 2 ≤ a9) → F9 a9 = F a9)) := by
  refine xM_v rfl (Nat.le_of_ble_eq_true rfl) (L0 := [some (.ref t)]) rfl rfl fun Θ hC hin hret => ?_
  have hag : ∀ a9 : Nat, (a9 < t ∨ t + 2 ≤ a9) → F a9 = F a9 := fun a9 _ => rfl
  obtain ⟨h0ht, ⟨hcht, hkht⟩, hsht, sht, h1ht, hqht⟩ := ht
  refine x_aload_n hC d_Text_clear_0 rfl rfl ?_
  refine x_iconst hC d_Text_clear_1 (v := nI 0) (by decide) ?_
  refine x_putf hC kf_Text_21 h0ht (Nat.le_of_ble_eq_true rfl) rfl rfl d_Text_clear_2 (fs1 := [.ref (t + 1), .int (nI 0)]) rfl ?_
  generalize e1 : xup F (t) (.inl (8, [.ref (t + 1), .int (nI 0)])) = F1
  have h0ht : F1 (t) = some (.inl (8, [.ref (t + 1), .int (nI 0)])) := by rw [← e1]; exact xup_eq
  have h1ht : F1 (t + 1) = some (.inr (1, cap, fun b9 => .int (nI (sht b9)))) := by rw [← e1]; exact (xup_ne (by omega)).trans h1ht
  have hag : ∀ a9 : Nat, (a9 < t ∨ t + 2 ≤ a9) → F1 a9 = F a9 := fun a9 q0 => by rw [← e1]; exact (xup_ne (by omega)).trans (hag a9 q0)
  exact hret _ _ _ _ _ _ d_Text_clear_5 (by decide) (by decide) (⟨rfl, rfl, ⟨h0ht, ⟨by omega, hkht⟩, fun j hj => absurd hj (by omega), sht, h1ht, fun j hj => absurd hj (by omega)⟩, hag⟩)

theorem d_Text_add_0 : decode prog_12_method_5_code 0 = .ok (.aload_n 0, 1) := by decide +kernel
theorem d_Text_add_1 : decode prog_12_method_5_code 1 = .ok (.getfield 21, 3) := by decide +kernel
theorem d_Text_add_4 : decode prog_12_method_5_code 4 = .ok (.aload_n 0, 1) := by decide +kernel
theorem d_Text_add_5 : decode prog_12_method_5_code 5 = .ok (.getfield 15, 3) := by decide +kernel
theorem d_Text_add_8 : decode prog_12_method_5_code 8 = .ok (.arraylength, 1) := by decide +kernel
theorem d_Text_add_9 : decode prog_12_method_5_code 9 = .ok (.if_icmp .lt 5, 3) := by decide +kernel
theorem d_Text_add_12 : decode prog_12_method_5_code 12 = .ok (.iconst 0, 1) := by decide +kernel
theorem d_Text_add_13 : decode prog_12_method_5_code 13 = .ok (.ireturn, 1) := by decide +kernel
theorem d_Text_add_14 : decode prog_12_method_5_code 14 = .ok (.aload_n 0, 1) := by decide +kernel
theorem d_Text_add_15 : decode prog_12_method_5_code 15 = .ok (.getfield 15, 3) := by decide +kernel
theorem d_Text_add_18 : decode prog_12_method_5_code 18 = .ok (.aload_n 0, 1) := by decide +kernel
theorem d_Text_add_19 : decode prog_12_method_5_code 19 = .ok (.getfield 21, 3) := by decide +kernel
theorem d_Text_add_22 : decode prog_12_method_5_code 22 = .ok (.iload_n 1, 1) := by decide +kernel
theorem d_Text_add_23 : decode prog_12_method_5_code 23 = .ok (.castore, 1) := by decide +kernel
theorem d_Text_add_24 : decode prog_12_method_5_code 24 = .ok (.aload_n 0, 1) := by decide +kernel
theorem d_Text_add_25 : decode prog_12_method_5_code 25 = .ok (.dup, 1) := by decide +kernel
theorem d_Text_add_26 : decode prog_12_method_5_code 26 = .ok (.getfield 21, 3) := by decide +kernel
theorem d_Text_add_29 : decode prog_12_method_5_code 29 = .ok (.iconst 1, 1) := by decide +kernel
theorem d_Text_add_30 : decode prog_12_method_5_code 30 = .ok (.iadd, 1) := by decide +kernel
theorem d_Text_add_31 : decode prog_12_method_5_code 31 = .ok (.putfield 21, 3) := by decide +kernel
theorem d_Text_add_34 : decode prog_12_method_5_code 34 = .ok (.iconst 1, 1) := by decide +kernel
theorem d_Text_add_35 : decode prog_12_method_5_code 35 = .ok (.ireturn, 1) := by decide +kernel
set_option maxHeartbeats 4000000 in
set_option maxRecDepth 20000 in
theorem c_Text_add1 {P : xP} {F : xF} {z : Nat} {t : Nat} {cap : Nat} {n : Nat} {s : Nat → Nat} {c : Nat} (ht : xTx F (t) (cap) (n) (s)) (hlt : n < cap) (hc0 : c < 65536) : xM P xy_Text_add [.ref t, .int (nI (c))] F (z) 0 0 (fun r9 F9 z9 => r9 = some (.int (nI 1)) ∧ z9 = z ∧ xTx F9 (t) (cap) (n + 1) (updN s n c) ∧ (∀ a9 : Nat, (a9 < t ∨ t + 2 ≤ a9) → F9 a9 = F a9)) := by
  refine xM_i .boolean rfl (Nat.le_of_ble_eq_true rfl) (L0 := [some (.ref t), some (.int (nI (c)))]) rfl rfl fun Θ hC hret => ?_
  have hag : ∀ a9 : Nat, (a9 < t ∨ t + 2 ≤ a9) → F a9 = F a9 := fun a9 _ => rfl
  obtain ⟨h0ht, ⟨hcht, hkht⟩, hsht, sht, h1ht, hqht⟩ := ht
  refine x_aload_n hC d_Text_add_0 rfl rfl ?_
  refine x_getf hC kf_Text_21 h0ht rfl d_Text_add_1 ?_
  refine x_aload_n hC d_Text_add_4 rfl rfl ?_
  refine x_getf hC kf_Text_15 h0ht rfl d_Text_add_5 ?_
  refine x_alen hC h1ht (by decide) rfl d_Text_add_8 ?_
  refine x_icmpN_lt hC d_Text_add_9 (tgt := 14) (by decide) (by omega) (by omega) (fun c_9 => ?_) (fun c_9 => ?_)
  · skip
    refine x_aload_n hC d_Text_add_14 rfl rfl ?_
    refine x_getf hC kf_Text_15 h0ht rfl d_Text_add_15 ?_
    refine x_aload_n hC d_Text_add_18 rfl rfl ?_
    refine x_getf hC kf_Text_21 h0ht rfl d_Text_add_19 ?_
    refine x_iload_n hC d_Text_add_22 rfl rfl ?_
    refine x_cast hC h1ht (j := n) ⟨rfl, by omega, by omega⟩ (x_char _ (by omega)) d_Text_add_23 (g1 := fun b9 => nI (updN sht (n) (c) b9)) (x_updN _ _ _) ?_
    generalize eg1 : updN sht (n) (c) = gw1
    generalize e2 : xup F (t + 1) (.inr (1, cap, fun b9 => .int (nI (gw1 b9)))) = F2
    have h0ht : F2 (t) = some (.inl (8, [.ref (t + 1), .int (nI (n))])) := by rw [← e2]; exact (xup_ne (by omega)).trans h0ht
    have h1ht : F2 (t + 1) = some (.inr (1, cap, fun b9 => .int (nI (gw1 b9)))) := by rw [← e2]; exact xup_eq
    have hag : ∀ a9 : Nat, (a9 < t ∨ t + 2 ≤ a9) → F2 a9 = F a9 := fun a9 q0 => by rw [← e2]; exact (xup_ne (by omega)).trans (hag a9 q0)
    refine x_aload_n hC d_Text_add_24 rfl rfl ?_
    refine x_dup hC d_Text_add_25 rfl ?_
    refine x_getf hC kf_Text_21 h0ht rfl d_Text_add_26 ?_
    refine x_iconst hC d_Text_add_29 (v := nI 1) (by decide) ?_
    refine x_iadd hC d_Text_add_30 (v := (nI (n + 1))) (x_addN (by omega)) ?_
    refine x_putf hC kf_Text_21 h0ht (Nat.le_of_ble_eq_true rfl) rfl rfl d_Text_add_31 (fs1 := [.ref (t + 1), .int (nI (n + 1))]) rfl ?_
    generalize e3 : xup F2 (t) (.inl (8, [.ref (t + 1), .int (nI (n + 1))])) = F3
    have h0ht : F3 (t) = some (.inl (8, [.ref (t + 1), .int (nI (n + 1))])) := by rw [← e3]; exact xup_eq
    have h1ht : F3 (t + 1) = some (.inr (1, cap, fun b9 => .int (nI (gw1 b9)))) := by rw [← e3]; exact (xup_ne (by omega)).trans h1ht
    have hag : ∀ a9 : Nat, (a9 < t ∨ t + 2 ≤ a9) → F3 a9 = F a9 := fun a9 q0 => by rw [← e3]; exact (xup_ne (by omega)).trans (hag a9 q0)
    refine x_iconst hC d_Text_add_34 (v := nI 1) (by decide) ?_
    exact hret _ _ _ _ _ _ _ d_Text_add_35 (by decide) (by decide) rfl (⟨rfl, rfl, ⟨h0ht, ⟨by omega, hkht⟩, fun j hj => (Nat.lt_or_ge j n).elim (fun q => by rw [updN_ne (by omega)]; exact hsht j q) (fun q => by rw [show j = n by omega, updN_eq]; exact hc0), gw1, h1ht, fun j hj => (Nat.lt_or_ge j n).elim (fun q => by rw [← eg1, updN_ne (by omega), updN_ne (by omega)]; exact hqht j q) (fun q => by rw [← eg1, show j = n by omega, updN_eq, updN_eq])⟩, hag⟩)
  · skip
    exact absurd c_9 (by omega)

set_option maxHeartbeats 4000000 in
set_option maxRecDepth 20000 in
theorem c_Text_add {P : xP} {F : xF} {z : Nat} {t : Nat} {cap : Nat} {n : Nat} {s : Nat → Nat} {c : Nat} (ht : xTx F (t) (cap) (n) (s)) (hc0 : c < 65536) : xM P xy_Text_add [.ref t, .int (nI (c))] F (z) 0 0 (fun r9 F9 z9 => ∃ n1 : Nat, ∃ s1 : Nat → Nat, r9 = some (.int (xb (n < cap))) ∧ z9 = z ∧ xTx F9 (t) (cap) (n1) (s1) ∧ ((n < cap → n1 = n + 1 ∧ s1 = updN s n c) ∧ (¬ n < cap → n1 = n ∧ s1 = s)) ∧ (∀ a9 : Nat, (a9 < t ∨ t + 2 ≤ a9) → F9 a9 = F a9)) := by
  refine xM_i .boolean rfl (Nat.le_of_ble_eq_true rfl) (L0 := [some (.ref t), some (.int (nI (c)))]) rfl rfl fun Θ hC hret => ?_
  have hag : ∀ a9 : Nat, (a9 < t ∨ t + 2 ≤ a9) → F a9 = F a9 := fun a9 _ => rfl
  obtain ⟨h0ht, ⟨hcht, hkht⟩, hsht, sht, h1ht, hqht⟩ := ht
  refine x_aload_n hC d_Text_add_0 rfl rfl ?_
  refine x_getf hC kf_Text_21 h0ht rfl d_Text_add_1 ?_
  refine x_aload_n hC d_Text_add_4 rfl rfl ?_
  refine x_getf hC kf_Text_15 h0ht rfl d_Text_add_5 ?_
  refine x_alen hC h1ht (by decide) rfl d_Text_add_8 ?_
  refine x_icmpN_lt hC d_Text_add_9 (tgt := 14) (by decide) (by omega) (by omega) (fun c_9 => ?_) (fun c_9 => ?_)
  · skip
    refine x_aload_n hC d_Text_add_14 rfl rfl ?_
    refine x_getf hC kf_Text_15 h0ht rfl d_Text_add_15 ?_
    refine x_aload_n hC d_Text_add_18 rfl rfl ?_
    refine x_getf hC kf_Text_21 h0ht rfl d_Text_add_19 ?_
    refine x_iload_n hC d_Text_add_22 rfl rfl ?_
    refine x_cast hC h1ht (j := n) ⟨rfl, by omega, by omega⟩ (x_char _ (by omega)) d_Text_add_23 (g1 := fun b9 => nI (updN sht (n) (c) b9)) (x_updN _ _ _) ?_
    generalize eg1 : updN sht (n) (c) = gw1
    generalize e2 : xup F (t + 1) (.inr (1, cap, fun b9 => .int (nI (gw1 b9)))) = F2
    have h0ht : F2 (t) = some (.inl (8, [.ref (t + 1), .int (nI (n))])) := by rw [← e2]; exact (xup_ne (by omega)).trans h0ht
    have h1ht : F2 (t + 1) = some (.inr (1, cap, fun b9 => .int (nI (gw1 b9)))) := by rw [← e2]; exact xup_eq
    have hag : ∀ a9 : Nat, (a9 < t ∨ t + 2 ≤ a9) → F2 a9 = F a9 := fun a9 q0 => by rw [← e2]; exact (xup_ne (by omega)).trans (hag a9 q0)
    refine x_aload_n hC d_Text_add_24 rfl rfl ?_
    refine x_dup hC d_Text_add_25 rfl ?_
    refine x_getf hC kf_Text_21 h0ht rfl d_Text_add_26 ?_
    refine x_iconst hC d_Text_add_29 (v := nI 1) (by decide) ?_
    refine x_iadd hC d_Text_add_30 (v := (nI (n + 1))) (x_addN (by omega)) ?_
    refine x_putf hC kf_Text_21 h0ht (Nat.le_of_ble_eq_true rfl) rfl rfl d_Text_add_31 (fs1 := [.ref (t + 1), .int (nI (n + 1))]) rfl ?_
    generalize e3 : xup F2 (t) (.inl (8, [.ref (t + 1), .int (nI (n + 1))])) = F3
    have h0ht : F3 (t) = some (.inl (8, [.ref (t + 1), .int (nI (n + 1))])) := by rw [← e3]; exact xup_eq
    have h1ht : F3 (t + 1) = some (.inr (1, cap, fun b9 => .int (nI (gw1 b9)))) := by rw [← e3]; exact (xup_ne (by omega)).trans h1ht
    have hag : ∀ a9 : Nat, (a9 < t ∨ t + 2 ≤ a9) → F3 a9 = F a9 := fun a9 q0 => by rw [← e3]; exact (xup_ne (by omega)).trans (hag a9 q0)
    refine x_iconst hC d_Text_add_34 (v := nI 1) (by decide) ?_
    exact hret _ _ _ _ _ _ _ d_Text_add_35 (by decide) (by decide) rfl (⟨n + 1, updN s n c, congrArg (fun q => some (Value.int q)) (xb_t1 (by omega)), rfl, ⟨h0ht, ⟨by omega, hkht⟩, fun j hj => (Nat.lt_or_ge j n).elim (fun q => by rw [updN_ne (by omega)]; exact hsht j q) (fun q => by rw [show j = n by omega, updN_eq]; exact hc0), gw1, h1ht, fun j hj => (Nat.lt_or_ge j n).elim (fun q => by rw [← eg1, updN_ne (by omega), updN_ne (by omega)]; exact hqht j q) (fun q => by rw [← eg1, show j = n by omega, updN_eq, updN_eq])⟩, ⟨fun _ => ⟨rfl, rfl⟩, fun q => absurd c_9 q⟩, hag⟩)
  · skip
    refine x_iconst hC d_Text_add_12 (v := nI 0) (by decide) ?_
    exact hret _ _ _ _ _ _ _ d_Text_add_13 (by decide) (by decide) rfl (⟨n, s, congrArg (fun q => some (Value.int q)) (xb_f0 (by omega)), rfl, ⟨h0ht, ⟨hcht, hkht⟩, hsht, sht, h1ht, hqht⟩, ⟨fun q => absurd q (by omega), fun _ => ⟨rfl, rfl⟩⟩, hag⟩)

theorem d_Text_addAll_0 : decode prog_12_method_6_code 0 = .ok (.iconst 0, 1) := by decide +kernel
theorem d_Text_addAll_1 : decode prog_12_method_6_code 1 = .ok (.istore_n 2, 1) := by decide +kernel
theorem d_Text_addAll_2 : decode prog_12_method_6_code 2 = .ok (.iload_n 2, 1) := by decide +kernel
theorem d_Text_addAll_3 : decode prog_12_method_6_code 3 = .ok (.aload_n 1, 1) := by decide +kernel
theorem d_Text_addAll_4 : decode prog_12_method_6_code 4 = .ok (.getfield 21, 3) := by decide +kernel
theorem d_Text_addAll_7 : decode prog_12_method_6_code 7 = .ok (.if_icmp .ge 19, 3) := by decide +kernel
theorem d_Text_addAll_10 : decode prog_12_method_6_code 10 = .ok (.aload_n 0, 1) := by decide +kernel
theorem d_Text_addAll_11 : decode prog_12_method_6_code 11 = .ok (.aload_n 1, 1) := by decide +kernel
theorem d_Text_addAll_12 : decode prog_12_method_6_code 12 = .ok (.iload_n 2, 1) := by decide +kernel
theorem d_Text_addAll_13 : decode prog_12_method_6_code 13 = .ok (.invokevirtual 29, 3) := by decide +kernel
theorem d_Text_addAll_16 : decode prog_12_method_6_code 16 = .ok (.invokevirtual 33, 3) := by decide +kernel
theorem d_Text_addAll_19 : decode prog_12_method_6_code 19 = .ok (.pop, 1) := by decide +kernel
theorem d_Text_addAll_20 : decode prog_12_method_6_code 20 = .ok (.iinc 2 1, 3) := by decide +kernel
theorem d_Text_addAll_23 : decode prog_12_method_6_code 23 = .ok (.goto (-21), 3) := by decide +kernel
theorem d_Text_addAll_26 : decode prog_12_method_6_code 26 = .ok (.return_, 1) := by decide +kernel
set_option maxHeartbeats 4000000 in
set_option maxRecDepth 20000 in
theorem c_Text_addAll {P : xP} {F : xF} {z : Nat} {t : Nat} {cap : Nat} {n : Nat} {s : Nat → Nat} {o : Nat} {capo : Nat} {m : Nat} {u : Nat → Nat} (ht : xTx F (t) (cap) (n) (s)) (ho : xTx F (o) (capo) (m) (u)) (hsz : n + m ≤ cap) (hd : t + 2 ≤ o ∨ o + 2 ≤ t) : xM P xy_Text_addAll [.ref t, .ref o] F (z) 0 0 (fun r9 F9 z9 => r9 = none ∧ z9 = z ∧ xTx F9 (t) (cap) (n + m) (xcat s n u) ∧ (∀ a9 : Nat, (a9 < t ∨ t + 2 ≤ a9) → F9 a9 = F a9)) := by
  refine xM_v rfl (Nat.le_of_ble_eq_true rfl) (L0 := [some (.ref t), some (.ref o), none]) rfl rfl fun Θ hC hin hret => ?_
  have hag : ∀ a9 : Nat, (a9 < t ∨ t + 2 ≤ a9) → F a9 = F a9 := fun a9 _ => rfl
  have hlo := ho.2.1
  refine x_iconst hC d_Text_addAll_0 (v := nI 0) (by decide) ?_
  refine x_istore_n hC d_Text_addAll_1 rfl (Nat.le_of_ble_eq_true rfl) (L1 := [some (.ref t), some (.ref o), some (.int (nI 0))]) rfl ?_
  have loop_2 : ∀ (m9 : Nat) (Fh2 : xF) (i : Nat) (s1 : Nat → Nat), (xTx Fh2 (t) (cap) (n + i) (s1)) → (xTx Fh2 (o) (capo) (m) (u)) → (∀ a9 : Nat, (a9 < t ∨ t + 2 ≤ a9) → Fh2 a9 = F a9) → (i ≤ m) → (∀ j, j < n → s1 j = s j) → (∀ j, j < i → s1 (n + j) = u j) → (m - i < m9) → xX P Θ 2 [some (.ref t), some (.ref o), some (.int (nI (i)))] [] Fh2 (z) 0 0 := by
    intro m9
    induction m9 with
    | zero => intros; omega
    | succ m9 ih_2 =>
      intro Fh2 i s1 ht ho hag hi k1 k2 hm_2
      refine x_iload_n hC d_Text_addAll_2 rfl rfl ?_
      refine x_aload_n hC d_Text_addAll_3 rfl rfl ?_
      refine x_getf hC kf_Text_21 ho.1 rfl d_Text_addAll_4 ?_
      refine x_icmpN_ge hC d_Text_addAll_7 (tgt := 26) (by decide) (by omega) (by omega) (fun c_7 => ?_) (fun c_7 => ?_)
      · skip
        refine hret _ _ _ _ _ _ d_Text_addAll_26 (by decide) (by decide) ?_
        obtain rfl : i = m := by omega
        exact ⟨rfl, rfl, xTx_ext ht (fun j hj => (Nat.lt_or_ge j n).elim (fun q => (k1 j q).trans (if_pos q).symm) (fun q => by rw [xcat, if_neg (by omega), ← k2 (j - n) (by omega), show n + (j - n) = j by omega])), hag⟩
      · skip
        refine x_aload_n hC d_Text_addAll_10 rfl rfl ?_
        refine x_aload_n hC d_Text_addAll_11 rfl rfl ?_
        refine x_iload_n hC d_Text_addAll_12 rfl rfl ?_
        refine x_callV hC kv_Text_29 (c_Text_at (ht := ho) (hi := by omega)) ho.1 rfl rfl (by decide) rfl rfl rfl (Nat.le_of_ble_eq_true rfl) (by decide) d_Text_addAll_13 (fun r9 F9 z9 hp9 => ?_)
        obtain ⟨rfl, h9b, h9c⟩ := hp9
        rw [h9b, h9c]
        clear h9b h9c F9 z9
        refine x_callV hC kv_Text_33 (c_Text_add1 (ht := ht) (hlt := by omega) (hc0 := by rw [if_pos (by omega)]; exact ho.2.2.1 _ (by omega))) ht.1 rfl rfl (by decide) rfl rfl rfl (Nat.le_of_ble_eq_true rfl) (by decide) d_Text_addAll_16 (fun r9 F9 z9 hp9 => ?_)
        obtain ⟨rfl, h9c, j0, hag9⟩ := hp9
        rw [h9c]
        clear h9c z9
        generalize F9 = F1 at *
        have ho : xTx F1 (o) (capo) (m) (u) := xTx_fr ho (fun a9 q1 q2 => hag9 a9 (by omega))
        have ht : xTx F1 (t) (cap) ((n + i) + 1) (updN s1 (n + i) (if i < m then u i else 0)) := j0
        have hag : ∀ a9 : Nat, (a9 < t ∨ t + 2 ≤ a9) → F1 a9 = F a9 := fun a9 q0 => (hag9 a9 (by omega)).trans (hag a9 q0)
        have hg_16 := hag9
        clear hag9
        refine x_pop hC d_Text_addAll_19 rfl ?_
        refine x_iinc hC d_Text_addAll_20 rfl (v := (nI (i + 1))) (x_incN 1) (Nat.le_of_ble_eq_true rfl) (L1 := [some (.ref t), some (.ref o), some (.int (nI (i + 1)))]) rfl ?_
        refine x_goto hC d_Text_addAll_23 (tgt := 2) (by decide) ?_
        exact ih_2 F1 (i + 1) (updN s1 (n + i) (if i < m then u i else 0)) ht ho hag (by omega) (fun j hj => by rw [updN_ne (by omega)]; exact k1 j hj) (fun j hj => (Nat.lt_or_ge j i).elim (fun q => by rw [updN_ne (by omega)]; exact k2 j q) (fun q => by rw [show j = i by omega, updN_eq, if_pos (by omega)])) (by omega)
  exact loop_2 (m - 0 + 1) F (0) (s) ht ho hag (by omega) (fun _ _ => rfl) (fun _ hj => absurd hj (by omega)) (by omega)

theorem d_Text_copyFrom_0 : decode prog_12_method_8_code 0 = .ok (.aload_n 0, 1) := by decide +kernel
theorem d_Text_copyFrom_1 : decode prog_12_method_8_code 1 = .ok (.aload_n 1, 1) := by decide +kernel
theorem d_Text_copyFrom_2 : decode prog_12_method_8_code 2 = .ok (.getfield 21, 3) := by decide +kernel
theorem d_Text_copyFrom_5 : decode prog_12_method_8_code 5 = .ok (.aload_n 0, 1) := by decide +kernel
theorem d_Text_copyFrom_6 : decode prog_12_method_8_code 6 = .ok (.getfield 15, 3) := by decide +kernel
theorem d_Text_copyFrom_9 : decode prog_12_method_8_code 9 = .ok (.arraylength, 1) := by decide +kernel
theorem d_Text_copyFrom_10 : decode prog_12_method_8_code 10 = .ok (.invokestatic 37, 3) := by decide +kernel
theorem d_Text_copyFrom_13 : decode prog_12_method_8_code 13 = .ok (.putfield 21, 3) := by decide +kernel
theorem d_Text_copyFrom_16 : decode prog_12_method_8_code 16 = .ok (.iconst 0, 1) := by decide +kernel
theorem d_Text_copyFrom_17 : decode prog_12_method_8_code 17 = .ok (.istore_n 2, 1) := by decide +kernel
theorem d_Text_copyFrom_18 : decode prog_12_method_8_code 18 = .ok (.iload_n 2, 1) := by decide +kernel
theorem d_Text_copyFrom_19 : decode prog_12_method_8_code 19 = .ok (.aload_n 0, 1) := by decide +kernel
theorem d_Text_copyFrom_20 : decode prog_12_method_8_code 20 = .ok (.getfield 21, 3) := by decide +kernel
theorem d_Text_copyFrom_23 : decode prog_12_method_8_code 23 = .ok (.if_icmp .ge 21, 3) := by decide +kernel
theorem d_Text_copyFrom_26 : decode prog_12_method_8_code 26 = .ok (.aload_n 0, 1) := by decide +kernel
theorem d_Text_copyFrom_27 : decode prog_12_method_8_code 27 = .ok (.getfield 15, 3) := by decide +kernel
theorem d_Text_copyFrom_30 : decode prog_12_method_8_code 30 = .ok (.iload_n 2, 1) := by decide +kernel
theorem d_Text_copyFrom_31 : decode prog_12_method_8_code 31 = .ok (.aload_n 1, 1) := by decide +kernel
theorem d_Text_copyFrom_32 : decode prog_12_method_8_code 32 = .ok (.getfield 15, 3) := by decide +kernel
theorem d_Text_copyFrom_35 : decode prog_12_method_8_code 35 = .ok (.iload_n 2, 1) := by decide +kernel
theorem d_Text_copyFrom_36 : decode prog_12_method_8_code 36 = .ok (.caload, 1) := by decide +kernel
theorem d_Text_copyFrom_37 : decode prog_12_method_8_code 37 = .ok (.castore, 1) := by decide +kernel
theorem d_Text_copyFrom_38 : decode prog_12_method_8_code 38 = .ok (.iinc 2 1, 3) := by decide +kernel
theorem d_Text_copyFrom_41 : decode prog_12_method_8_code 41 = .ok (.goto (-23), 3) := by decide +kernel
theorem d_Text_copyFrom_44 : decode prog_12_method_8_code 44 = .ok (.return_, 1) := by decide +kernel
set_option maxHeartbeats 4000000 in
set_option maxRecDepth 20000 in
theorem c_Text_copyFrom {P : xP} {F : xF} {z : Nat} {t : Nat} {cap : Nat} {n : Nat} {s : Nat → Nat} {o : Nat} {capo : Nat} {m : Nat} {u : Nat → Nat} (ht : xTx F (t) (cap) (n) (s)) (ho : xTx F (o) (capo) (m) (u)) (hsz : m ≤ cap) (hd : t + 2 ≤ o ∨ o + 2 ≤ t) : xM P xy_Text_copyFrom [.ref t, .ref o] F (z) 0 0 (fun r9 F9 z9 => r9 = none ∧ z9 = z ∧ xTx F9 (t) (cap) (m) (u) ∧ xTx F9 (o) (capo) (m) (u) ∧ (∀ a9 : Nat, (a9 < t ∨ t + 2 ≤ a9) → F9 a9 = F a9)) := by
  refine xM_v rfl (Nat.le_of_ble_eq_true rfl) (L0 := [some (.ref t), some (.ref o), none]) rfl rfl fun Θ hC hin hret => ?_
  have hag : ∀ a9 : Nat, (a9 < t ∨ t + 2 ≤ a9) → F a9 = F a9 := fun a9 _ => rfl
  obtain ⟨h0ht, ⟨hcht, hkht⟩, hsht, sht, h1ht, hqht⟩ := ht
  obtain ⟨h0ho, ⟨hcho, hkho⟩, hsho, sho, h1ho, hqho⟩ := ho
  refine x_aload_n hC d_Text_copyFrom_0 rfl rfl ?_
  refine x_aload_n hC d_Text_copyFrom_1 rfl rfl ?_
  refine x_getf hC kf_Text_21 h0ho rfl d_Text_copyFrom_2 ?_
  refine x_aload_n hC d_Text_copyFrom_5 rfl rfl ?_
  refine x_getf hC kf_Text_15 h0ht rfl d_Text_copyFrom_6 ?_
  refine x_alen hC h1ht (by decide) rfl d_Text_copyFrom_9 ?_
  refine x_mminN hC km_Text_37 (by omega) (by omega) rfl (by decide) (Nat.le_of_ble_eq_true rfl) (by decide) d_Text_copyFrom_10 (v := m) (if_neg (by omega)) ?_
  refine x_putf hC kf_Text_21 h0ht (Nat.le_of_ble_eq_true rfl) rfl rfl d_Text_copyFrom_13 (fs1 := [.ref (t + 1), .int (nI (m))]) rfl ?_
  generalize e1 : xup F (t) (.inl (8, [.ref (t + 1), .int (nI (m))])) = F1
  have h0ht : F1 (t) = some (.inl (8, [.ref (t + 1), .int (nI (m))])) := by rw [← e1]; exact xup_eq
  have h1ht : F1 (t + 1) = some (.inr (1, cap, fun b9 => .int (nI (sht b9)))) := by rw [← e1]; exact (xup_ne (by omega)).trans h1ht
  have h0ho : F1 (o) = some (.inl (8, [.ref (o + 1), .int (nI (m))])) := by rw [← e1]; exact (xup_ne (by omega)).trans h0ho
  have h1ho : F1 (o + 1) = some (.inr (1, capo, fun b9 => .int (nI (sho b9)))) := by rw [← e1]; exact (xup_ne (by omega)).trans h1ho
  have hag : ∀ a9 : Nat, (a9 < t ∨ t + 2 ≤ a9) → F1 a9 = F a9 := fun a9 q0 => by rw [← e1]; exact (xup_ne (by omega)).trans (hag a9 q0)
  refine x_iconst hC d_Text_copyFrom_16 (v := nI 0) (by decide) ?_
  refine x_istore_n hC d_Text_copyFrom_17 rfl (Nat.le_of_ble_eq_true rfl) (L1 := [some (.ref t), some (.ref o), some (.int (nI 0))]) rfl ?_
  have loop_18 : ∀ (m9 : Nat) (Fh18 : xF) (i : Nat) (s1 : Nat → Nat), (Fh18 (t) = some (.inl (8, [.ref (t + 1), .int (nI (m))]))) → (Fh18 (t + 1) = some (.inr (1, cap, fun b9 => .int (nI (s1 b9))))) → (Fh18 (o) = some (.inl (8, [.ref (o + 1), .int (nI (m))]))) → (Fh18 (o + 1) = some (.inr (1, capo, fun b9 => .int (nI (sho b9))))) → (∀ a9 : Nat, (a9 < t ∨ t + 2 ≤ a9) → Fh18 a9 = F a9) → (i ≤ m) → (∀ j, j < i → s1 j = sho j) → (m - i < m9) → xX P Θ 18 [some (.ref t), some (.ref o), some (.int (nI (i)))] [] Fh18 (z) 0 0 := by
    intro m9
    induction m9 with
    | zero => intros; omega
    | succ m9 ih_18 =>
      intro Fh18 i s1 h0ht h1ht h0ho h1ho hag hi k1 hm_18
      refine x_iload_n hC d_Text_copyFrom_18 rfl rfl ?_
      refine x_aload_n hC d_Text_copyFrom_19 rfl rfl ?_
      refine x_getf hC kf_Text_21 h0ht rfl d_Text_copyFrom_20 ?_
      refine x_icmpN_ge hC d_Text_copyFrom_23 (tgt := 44) (by decide) (by omega) (by omega) (fun c_23 => ?_) (fun c_23 => ?_)
      · skip
        exact hret _ _ _ _ _ _ d_Text_copyFrom_44 (by decide) (by decide) (⟨rfl, rfl, ⟨h0ht, ⟨hsz, hkht⟩, hsho, s1, h1ht, fun j hj => (k1 j (by omega)).trans (hqho j hj)⟩, ⟨h0ho, ⟨hcho, hkho⟩, hsho, sho, h1ho, hqho⟩, hag⟩)
      · skip
        refine x_aload_n hC d_Text_copyFrom_26 rfl rfl ?_
        refine x_getf hC kf_Text_15 h0ht rfl d_Text_copyFrom_27 ?_
        refine x_iload_n hC d_Text_copyFrom_30 rfl rfl ?_
        refine x_aload_n hC d_Text_copyFrom_31 rfl rfl ?_
        refine x_getf hC kf_Text_15 h0ho rfl d_Text_copyFrom_32 ?_
        refine x_iload_n hC d_Text_copyFrom_35 rfl rfl ?_
        refine x_cald hC h1ho (j := i) ⟨rfl, by omega, by omega⟩ (x := nI (sho (i))) rfl d_Text_copyFrom_36 ?_
        refine x_cast hC h1ht (j := i) ⟨rfl, by omega, by omega⟩ (x_char _ (by rw [hqho _ (by omega)]; exact hsho _ (by omega))) d_Text_copyFrom_37 (g1 := fun b9 => nI (updN s1 (i) (sho (i)) b9)) (x_updN _ _ _) ?_
        generalize eg2 : updN s1 (i) (sho (i)) = gw2
        generalize e3 : xup Fh18 (t + 1) (.inr (1, cap, fun b9 => .int (nI (gw2 b9)))) = F3
        have h0ht : F3 (t) = some (.inl (8, [.ref (t + 1), .int (nI (m))])) := by rw [← e3]; exact (xup_ne (by omega)).trans h0ht
        have h1ht : F3 (t + 1) = some (.inr (1, cap, fun b9 => .int (nI (gw2 b9)))) := by rw [← e3]; exact xup_eq
        have h0ho : F3 (o) = some (.inl (8, [.ref (o + 1), .int (nI (m))])) := by rw [← e3]; exact (xup_ne (by omega)).trans h0ho
        have h1ho : F3 (o + 1) = some (.inr (1, capo, fun b9 => .int (nI (sho b9)))) := by rw [← e3]; exact (xup_ne (by omega)).trans h1ho
        have hag : ∀ a9 : Nat, (a9 < t ∨ t + 2 ≤ a9) → F3 a9 = F a9 := fun a9 q0 => by rw [← e3]; exact (xup_ne (by omega)).trans (hag a9 q0)
        refine x_iinc hC d_Text_copyFrom_38 rfl (v := (nI (i + 1))) (x_incN 1) (Nat.le_of_ble_eq_true rfl) (L1 := [some (.ref t), some (.ref o), some (.int (nI (i + 1)))]) rfl ?_
        refine x_goto hC d_Text_copyFrom_41 (tgt := 18) (by decide) ?_
        exact ih_18 F3 (i + 1) (gw2) h0ht h1ht h0ho h1ho hag (by omega) (fun j hj => (Nat.lt_or_ge j i).elim (fun q => by rw [← eg2, updN_ne (by omega)]; exact k1 j q) (fun q => by rw [← eg2, show j = i by omega, updN_eq])) (by omega)
  exact loop_18 (m - 0 + 1) F1 (0) (sht) h0ht h1ht h0ho h1ho hag (by omega) (fun _ hj => absurd hj (by omega)) (by omega)

def eqTo (s u : Nat → Nat) : Nat → Bool
  | 0 => true
  | n + 1 => eqTo s u n && s n == u n
theorem eqTo_iff (s u : Nat → Nat) : ∀ n, eqTo s u n = true ↔ ∀ j, j < n → s j = u j
  | 0 => ⟨fun _ j hj => absurd hj (by omega), fun _ => rfl⟩
  | n + 1 => by
    unfold eqTo
    rw [Bool.and_eq_true, eqTo_iff s u n, beq_iff_eq]
    exact ⟨fun h j hj => (Nat.lt_or_ge j n).elim (h.1 j) (fun q => by rw [show j = n by omega]; exact h.2), fun h => ⟨fun j hj => h j (by omega), h n (by omega)⟩⟩
theorem d_Text_sameAs_0 : decode prog_12_method_9_code 0 = .ok (.aload_n 0, 1) := by decide +kernel
theorem d_Text_sameAs_1 : decode prog_12_method_9_code 1 = .ok (.getfield 21, 3) := by decide +kernel
theorem d_Text_sameAs_4 : decode prog_12_method_9_code 4 = .ok (.aload_n 1, 1) := by decide +kernel
theorem d_Text_sameAs_5 : decode prog_12_method_9_code 5 = .ok (.getfield 21, 3) := by decide +kernel
theorem d_Text_sameAs_8 : decode prog_12_method_9_code 8 = .ok (.if_icmp .eq 5, 3) := by decide +kernel
theorem d_Text_sameAs_11 : decode prog_12_method_9_code 11 = .ok (.iconst 0, 1) := by decide +kernel
theorem d_Text_sameAs_12 : decode prog_12_method_9_code 12 = .ok (.ireturn, 1) := by decide +kernel
theorem d_Text_sameAs_13 : decode prog_12_method_9_code 13 = .ok (.iconst 0, 1) := by decide +kernel
theorem d_Text_sameAs_14 : decode prog_12_method_9_code 14 = .ok (.istore_n 2, 1) := by decide +kernel
theorem d_Text_sameAs_15 : decode prog_12_method_9_code 15 = .ok (.iload_n 2, 1) := by decide +kernel
theorem d_Text_sameAs_16 : decode prog_12_method_9_code 16 = .ok (.aload_n 0, 1) := by decide +kernel
theorem d_Text_sameAs_17 : decode prog_12_method_9_code 17 = .ok (.getfield 21, 3) := by decide +kernel
theorem d_Text_sameAs_20 : decode prog_12_method_9_code 20 = .ok (.if_icmp .ge 24, 3) := by decide +kernel
theorem d_Text_sameAs_23 : decode prog_12_method_9_code 23 = .ok (.aload_n 0, 1) := by decide +kernel
theorem d_Text_sameAs_24 : decode prog_12_method_9_code 24 = .ok (.iload_n 2, 1) := by decide +kernel
theorem d_Text_sameAs_25 : decode prog_12_method_9_code 25 = .ok (.invokevirtual 29, 3) := by decide +kernel
theorem d_Text_sameAs_28 : decode prog_12_method_9_code 28 = .ok (.aload_n 1, 1) := by decide +kernel
theorem d_Text_sameAs_29 : decode prog_12_method_9_code 29 = .ok (.iload_n 2, 1) := by decide +kernel
theorem d_Text_sameAs_30 : decode prog_12_method_9_code 30 = .ok (.invokevirtual 29, 3) := by decide +kernel
theorem d_Text_sameAs_33 : decode prog_12_method_9_code 33 = .ok (.if_icmp .eq 5, 3) := by decide +kernel
theorem d_Text_sameAs_36 : decode prog_12_method_9_code 36 = .ok (.iconst 0, 1) := by decide +kernel
theorem d_Text_sameAs_37 : decode prog_12_method_9_code 37 = .ok (.ireturn, 1) := by decide +kernel
theorem d_Text_sameAs_38 : decode prog_12_method_9_code 38 = .ok (.iinc 2 1, 3) := by decide +kernel
theorem d_Text_sameAs_41 : decode prog_12_method_9_code 41 = .ok (.goto (-26), 3) := by decide +kernel
theorem d_Text_sameAs_44 : decode prog_12_method_9_code 44 = .ok (.iconst 1, 1) := by decide +kernel
theorem d_Text_sameAs_45 : decode prog_12_method_9_code 45 = .ok (.ireturn, 1) := by decide +kernel
set_option maxHeartbeats 4000000 in
set_option maxRecDepth 20000 in
theorem c_Text_sameAs {P : xP} {F : xF} {z : Nat} {t : Nat} {cap : Nat} {n : Nat} {s : Nat → Nat} {o : Nat} {capo : Nat} {m : Nat} {u : Nat → Nat} (ht : xTx F (t) (cap) (n) (s)) (ho : xTx F (o) (capo) (m) (u))  : xM P xy_Text_sameAs [.ref t, .ref o] F (z) 0 0 (fun r9 F9 z9 => r9 = some (.int (xb (n = m ∧ eqTo s u n = true))) ∧ F9 = F ∧ z9 = z) := by
  refine xM_i .boolean rfl (Nat.le_of_ble_eq_true rfl) (L0 := [some (.ref t), some (.ref o), none]) rfl rfl fun Θ hC hret => ?_
  have hlt := ht.2.1
  have hlo := ho.2.1
  refine x_aload_n hC d_Text_sameAs_0 rfl rfl ?_
  refine x_getf hC kf_Text_21 ht.1 rfl d_Text_sameAs_1 ?_
  refine x_aload_n hC d_Text_sameAs_4 rfl rfl ?_
  refine x_getf hC kf_Text_21 ho.1 rfl d_Text_sameAs_5 ?_
  refine x_icmpN_eq hC d_Text_sameAs_8 (tgt := 13) (by decide) (by omega) (by omega) (fun c_8 => ?_) (fun c_8 => ?_)
  · skip
    refine x_iconst hC d_Text_sameAs_13 (v := nI 0) (by decide) ?_
    refine x_istore_n hC d_Text_sameAs_14 rfl (Nat.le_of_ble_eq_true rfl) (L1 := [some (.ref t), some (.ref o), some (.int (nI 0))]) rfl ?_
    have loop_15 : ∀ (m9 : Nat) (i : Nat), (xTx F (t) (cap) (n) (s)) → (xTx F (o) (capo) (m) (u)) → (i ≤ n) → (∀ j, j < i → s j = u j) → (n - i < m9) → xX P Θ 15 [some (.ref t), some (.ref o), some (.int (nI (i)))] [] F (z) 0 0 := by
      intro m9
      induction m9 with
      | zero => intros; omega
      | succ m9 ih_15 =>
        intro  i ht ho hi k1 hm_15
        refine x_iload_n hC d_Text_sameAs_15 rfl rfl ?_
        refine x_aload_n hC d_Text_sameAs_16 rfl rfl ?_
        refine x_getf hC kf_Text_21 ht.1 rfl d_Text_sameAs_17 ?_
        refine x_icmpN_ge hC d_Text_sameAs_20 (tgt := 44) (by decide) (by omega) (by omega) (fun c_20 => ?_) (fun c_20 => ?_)
        · skip
          refine x_iconst hC d_Text_sameAs_44 (v := nI 1) (by decide) ?_
          exact hret _ _ _ _ _ _ _ d_Text_sameAs_45 (by decide) (by decide) rfl (⟨congrArg (fun q => some (Value.int q)) (xb_t1 ⟨by omega, (eqTo_iff s u n).mpr (fun j hj => k1 j (by omega))⟩), rfl, rfl⟩)
        · skip
          refine x_aload_n hC d_Text_sameAs_23 rfl rfl ?_
          refine x_iload_n hC d_Text_sameAs_24 rfl rfl ?_
          refine x_callV hC kv_Text_29 (c_Text_at (ht := ht) (hi := by omega)) ht.1 rfl rfl (by decide) rfl rfl rfl (Nat.le_of_ble_eq_true rfl) (by decide) d_Text_sameAs_25 (fun r9 F9 z9 hp9 => ?_)
          obtain ⟨rfl, h9b, h9c⟩ := hp9
          rw [h9b, h9c]
          clear h9b h9c F9 z9
          refine x_aload_n hC d_Text_sameAs_28 rfl rfl ?_
          refine x_iload_n hC d_Text_sameAs_29 rfl rfl ?_
          refine x_callV hC kv_Text_29 (c_Text_at (ht := ho) (hi := by omega)) ho.1 rfl rfl (by decide) rfl rfl rfl (Nat.le_of_ble_eq_true rfl) (by decide) d_Text_sameAs_30 (fun r9 F9 z9 hp9 => ?_)
          obtain ⟨rfl, h9b, h9c⟩ := hp9
          rw [h9b, h9c]
          clear h9b h9c F9 z9
          have hb1 : (if i < n then s i else 0) < 2 ^ 31 := by rw [if_pos (by omega)]; have := ht.2.2.1 i (by omega); omega
          have hb2 : (if i < m then u i else 0) < 2 ^ 31 := by rw [if_pos (by omega)]; have := ho.2.2.1 i (by omega); omega
          refine x_icmpN_eq hC d_Text_sameAs_33 (tgt := 38) (by decide) (by omega) (by omega) (fun c_33 => ?_) (fun c_33 => ?_)
          · skip
            refine x_iinc hC d_Text_sameAs_38 rfl (v := (nI (i + 1))) (x_incN 1) (Nat.le_of_ble_eq_true rfl) (L1 := [some (.ref t), some (.ref o), some (.int (nI (i + 1)))]) rfl ?_
            refine x_goto hC d_Text_sameAs_41 (tgt := 15) (by decide) ?_
            exact ih_15  (i + 1) ht ho (by omega) (fun j hj => (Nat.lt_or_ge j i).elim (k1 j) (fun q => by rw [if_pos (by omega), if_pos (by omega)] at c_33; rw [show j = i by omega]; exact c_33)) (by omega)
          · skip
            refine x_iconst hC d_Text_sameAs_36 (v := nI 0) (by decide) ?_
            exact hret _ _ _ _ _ _ _ d_Text_sameAs_37 (by decide) (by decide) rfl (⟨congrArg (fun q => some (Value.int q)) (xb_f0 (fun q => c_33 (by rw [if_pos (by omega), if_pos (by omega)]; exact (eqTo_iff s u n).mp q.2 i (by omega)))), rfl, rfl⟩)
    exact loop_15 (n - 0 + 1)  (0) ht ho (by omega) (fun _ hj => absurd hj (by omega)) (by omega)
  · skip
    refine x_iconst hC d_Text_sameAs_11 (v := nI 0) (by decide) ?_
    exact hret _ _ _ _ _ _ _ d_Text_sameAs_12 (by decide) (by decide) rfl (⟨congrArg (fun q => some (Value.int q)) (xb_f0 (fun q => absurd q.1 c_8)), rfl, rfl⟩)

theorem d_Text_timesOf_0 : decode prog_12_method_10_code 0 = .ok (.iconst 0, 1) := by decide +kernel
theorem d_Text_timesOf_1 : decode prog_12_method_10_code 1 = .ok (.istore_n 2, 1) := by decide +kernel
theorem d_Text_timesOf_2 : decode prog_12_method_10_code 2 = .ok (.iconst 0, 1) := by decide +kernel
theorem d_Text_timesOf_3 : decode prog_12_method_10_code 3 = .ok (.istore_n 3, 1) := by decide +kernel
theorem d_Text_timesOf_4 : decode prog_12_method_10_code 4 = .ok (.iload_n 3, 1) := by decide +kernel
theorem d_Text_timesOf_5 : decode prog_12_method_10_code 5 = .ok (.aload_n 0, 1) := by decide +kernel
theorem d_Text_timesOf_6 : decode prog_12_method_10_code 6 = .ok (.getfield 21, 3) := by decide +kernel
theorem d_Text_timesOf_9 : decode prog_12_method_10_code 9 = .ok (.if_icmp .ge 21, 3) := by decide +kernel
theorem d_Text_timesOf_12 : decode prog_12_method_10_code 12 = .ok (.aload_n 0, 1) := by decide +kernel
theorem d_Text_timesOf_13 : decode prog_12_method_10_code 13 = .ok (.iload_n 3, 1) := by decide +kernel
theorem d_Text_timesOf_14 : decode prog_12_method_10_code 14 = .ok (.invokevirtual 29, 3) := by decide +kernel
theorem d_Text_timesOf_17 : decode prog_12_method_10_code 17 = .ok (.iload_n 1, 1) := by decide +kernel
theorem d_Text_timesOf_18 : decode prog_12_method_10_code 18 = .ok (.if_icmp .ne 6, 3) := by decide +kernel
theorem d_Text_timesOf_21 : decode prog_12_method_10_code 21 = .ok (.iinc 2 1, 3) := by decide +kernel
theorem d_Text_timesOf_24 : decode prog_12_method_10_code 24 = .ok (.iinc 3 1, 3) := by decide +kernel
theorem d_Text_timesOf_27 : decode prog_12_method_10_code 27 = .ok (.goto (-23), 3) := by decide +kernel
theorem d_Text_timesOf_30 : decode prog_12_method_10_code 30 = .ok (.iload_n 2, 1) := by decide +kernel
theorem d_Text_timesOf_31 : decode prog_12_method_10_code 31 = .ok (.ireturn, 1) := by decide +kernel
set_option maxHeartbeats 4000000 in
set_option maxRecDepth 20000 in
theorem c_Text_timesOf {P : xP} {F : xF} {z : Nat} {t : Nat} {cap : Nat} {n : Nat} {s : Nat → Nat} {c : Nat} (ht : xTx F (t) (cap) (n) (s)) (hc0 : c < 2 ^ 31) : xM P xy_Text_timesOf [.ref t, .int (nI (c))] F (z) 0 0 (fun r9 F9 z9 => r9 = some (.int (nI (tmOf s c n))) ∧ F9 = F ∧ z9 = z) := by
  refine xM_i .int rfl (Nat.le_of_ble_eq_true rfl) (L0 := [some (.ref t), some (.int (nI (c))), none, none]) rfl rfl fun Θ hC hret => ?_
  have hlt := ht.2.1
  have hbd := ht.2.2.1
  refine x_iconst hC d_Text_timesOf_0 (v := nI 0) (by decide) ?_
  refine x_istore_n hC d_Text_timesOf_1 rfl (Nat.le_of_ble_eq_true rfl) (L1 := [some (.ref t), some (.int (nI (c))), some (.int (nI 0)), none]) rfl ?_
  refine x_iconst hC d_Text_timesOf_2 (v := nI 0) (by decide) ?_
  refine x_istore_n hC d_Text_timesOf_3 rfl (Nat.le_of_ble_eq_true rfl) (L1 := [some (.ref t), some (.int (nI (c))), some (.int (nI 0)), some (.int (nI 0))]) rfl ?_
  have loop_4 : ∀ (m9 : Nat) (i : Nat) (q1 : Nat), (xTx F (t) (cap) (n) (s)) → (i ≤ n) → (q1 = tmOf s c i) → (n - i < m9) → xX P Θ 4 [some (.ref t), some (.int (nI (c))), some (.int (nI (q1))), some (.int (nI (i)))] [] F (z) 0 0 := by
    intro m9
    induction m9 with
    | zero => intros; omega
    | succ m9 ih_4 =>
      intro  i q1 ht hi k1 hm_4
      have hq1 : q1 ≤ 1000 := by have := tmOf_le s c i; omega
      refine x_iload_n hC d_Text_timesOf_4 rfl rfl ?_
      refine x_aload_n hC d_Text_timesOf_5 rfl rfl ?_
      refine x_getf hC kf_Text_21 ht.1 rfl d_Text_timesOf_6 ?_
      refine x_icmpN_ge hC d_Text_timesOf_9 (tgt := 30) (by decide) (by omega) (by omega) (fun c_9 => ?_) (fun c_9 => ?_)
      · skip
        refine x_iload_n hC d_Text_timesOf_30 rfl rfl ?_
        exact hret _ _ _ _ _ _ _ d_Text_timesOf_31 (by decide) (by decide) rfl (⟨by rw [k1, show i = n by omega], rfl, rfl⟩)
      · skip
        refine x_aload_n hC d_Text_timesOf_12 rfl rfl ?_
        refine x_iload_n hC d_Text_timesOf_13 rfl rfl ?_
        refine x_callV hC kv_Text_29 (c_Text_at (ht := ht) (hi := by omega)) ht.1 rfl rfl (by decide) rfl rfl rfl (Nat.le_of_ble_eq_true rfl) (by decide) d_Text_timesOf_14 (fun r9 F9 z9 hp9 => ?_)
        obtain ⟨rfl, h9b, h9c⟩ := hp9
        rw [h9b, h9c]
        clear h9b h9c F9 z9
        have hb9 : (if i < n then s i else 0) < 2 ^ 31 := by rw [if_pos (by omega)]; have := hbd i (by omega); omega
        refine x_iload_n hC d_Text_timesOf_17 rfl rfl ?_
        refine x_icmpN_ne hC d_Text_timesOf_18 (tgt := 24) (by decide) (by omega) (by omega) (fun c_18 => ?_) (fun c_18 => ?_)
        · skip
          refine x_iinc hC d_Text_timesOf_24 rfl (v := (nI (i + 1))) (x_incN 1) (Nat.le_of_ble_eq_true rfl) (L1 := [some (.ref t), some (.int (nI (c))), some (.int (nI (q1))), some (.int (nI (i + 1)))]) rfl ?_
          refine x_goto hC d_Text_timesOf_27 (tgt := 4) (by decide) ?_
          exact ih_4  (i + 1) (q1) ht (by omega) (by first | (rw [if_pos (by omega)] at c_18; rw [k1, tmOf, if_pos c_18]) | (rw [if_pos (by omega)] at c_18; rw [k1, tmOf, if_neg c_18])) (by omega)
        · skip
          refine x_iinc hC d_Text_timesOf_21 rfl (v := (nI (q1 + 1))) (x_incN 1) (Nat.le_of_ble_eq_true rfl) (L1 := [some (.ref t), some (.int (nI (c))), some (.int (nI (q1 + 1))), some (.int (nI (i)))]) rfl ?_
          refine x_iinc hC d_Text_timesOf_24 rfl (v := (nI (i + 1))) (x_incN 1) (Nat.le_of_ble_eq_true rfl) (L1 := [some (.ref t), some (.int (nI (c))), some (.int (nI (q1 + 1))), some (.int (nI (i + 1)))]) rfl ?_
          refine x_goto hC d_Text_timesOf_27 (tgt := 4) (by decide) ?_
          exact ih_4  (i + 1) (q1 + 1) ht (by omega) (by first | (rw [if_pos (by omega)] at c_18; rw [k1, tmOf, if_pos c_18]) | (rw [if_pos (by omega)] at c_18; rw [k1, tmOf, if_neg c_18])) (by omega)
  exact loop_4 (n - 0 + 1)  (0) (0) ht (by omega) (rfl) (by omega)

theorem d_Text_addNumber_0 : decode prog_12_method_7_code 0 = .ok (.iconst 1, 1) := by decide +kernel
theorem d_Text_addNumber_1 : decode prog_12_method_7_code 1 = .ok (.istore_n 2, 1) := by decide +kernel
theorem d_Text_addNumber_2 : decode prog_12_method_7_code 2 = .ok (.iconst 1, 1) := by decide +kernel
theorem d_Text_addNumber_3 : decode prog_12_method_7_code 3 = .ok (.istore_n 3, 1) := by decide +kernel
theorem d_Text_addNumber_4 : decode prog_12_method_7_code 4 = .ok (.iload_n 3, 1) := by decide +kernel
theorem d_Text_addNumber_5 : decode prog_12_method_7_code 5 = .ok (.bipush 10, 2) := by decide +kernel
theorem d_Text_addNumber_7 : decode prog_12_method_7_code 7 = .ok (.if_icmp .ge 22, 3) := by decide +kernel
theorem d_Text_addNumber_10 : decode prog_12_method_7_code 10 = .ok (.iload_n 1, 1) := by decide +kernel
theorem d_Text_addNumber_11 : decode prog_12_method_7_code 11 = .ok (.bipush 10, 2) := by decide +kernel
theorem d_Text_addNumber_13 : decode prog_12_method_7_code 13 = .ok (.idiv, 1) := by decide +kernel
theorem d_Text_addNumber_14 : decode prog_12_method_7_code 14 = .ok (.iload_n 2, 1) := by decide +kernel
theorem d_Text_addNumber_15 : decode prog_12_method_7_code 15 = .ok (.if_icmp .lt 14, 3) := by decide +kernel
theorem d_Text_addNumber_18 : decode prog_12_method_7_code 18 = .ok (.iload_n 2, 1) := by decide +kernel
theorem d_Text_addNumber_19 : decode prog_12_method_7_code 19 = .ok (.bipush 10, 2) := by decide +kernel
theorem d_Text_addNumber_21 : decode prog_12_method_7_code 21 = .ok (.imul, 1) := by decide +kernel
theorem d_Text_addNumber_22 : decode prog_12_method_7_code 22 = .ok (.istore_n 2, 1) := by decide +kernel
theorem d_Text_addNumber_23 : decode prog_12_method_7_code 23 = .ok (.iinc 3 1, 3) := by decide +kernel
theorem d_Text_addNumber_26 : decode prog_12_method_7_code 26 = .ok (.goto (-22), 3) := by decide +kernel
theorem d_Text_addNumber_29 : decode prog_12_method_7_code 29 = .ok (.iload_n 2, 1) := by decide +kernel
theorem d_Text_addNumber_30 : decode prog_12_method_7_code 30 = .ok (.ifCond .le 26, 3) := by decide +kernel
theorem d_Text_addNumber_33 : decode prog_12_method_7_code 33 = .ok (.aload_n 0, 1) := by decide +kernel
theorem d_Text_addNumber_34 : decode prog_12_method_7_code 34 = .ok (.bipush 48, 2) := by decide +kernel
theorem d_Text_addNumber_36 : decode prog_12_method_7_code 36 = .ok (.iload_n 1, 1) := by decide +kernel
theorem d_Text_addNumber_37 : decode prog_12_method_7_code 37 = .ok (.iload_n 2, 1) := by decide +kernel
theorem d_Text_addNumber_38 : decode prog_12_method_7_code 38 = .ok (.idiv, 1) := by decide +kernel
theorem d_Text_addNumber_39 : decode prog_12_method_7_code 39 = .ok (.bipush 10, 2) := by decide +kernel
theorem d_Text_addNumber_41 : decode prog_12_method_7_code 41 = .ok (.irem, 1) := by decide +kernel
theorem d_Text_addNumber_42 : decode prog_12_method_7_code 42 = .ok (.iadd, 1) := by decide +kernel
theorem d_Text_addNumber_43 : decode prog_12_method_7_code 43 = .ok (.i2c, 1) := by decide +kernel
theorem d_Text_addNumber_44 : decode prog_12_method_7_code 44 = .ok (.invokevirtual 33, 3) := by decide +kernel
theorem d_Text_addNumber_47 : decode prog_12_method_7_code 47 = .ok (.pop, 1) := by decide +kernel
theorem d_Text_addNumber_48 : decode prog_12_method_7_code 48 = .ok (.iload_n 2, 1) := by decide +kernel
theorem d_Text_addNumber_49 : decode prog_12_method_7_code 49 = .ok (.bipush 10, 2) := by decide +kernel
theorem d_Text_addNumber_51 : decode prog_12_method_7_code 51 = .ok (.idiv, 1) := by decide +kernel
theorem d_Text_addNumber_52 : decode prog_12_method_7_code 52 = .ok (.istore_n 2, 1) := by decide +kernel
theorem d_Text_addNumber_53 : decode prog_12_method_7_code 53 = .ok (.goto (-24), 3) := by decide +kernel
theorem d_Text_addNumber_56 : decode prog_12_method_7_code 56 = .ok (.return_, 1) := by decide +kernel
set_option maxHeartbeats 4000000 in
set_option maxRecDepth 20000 in
theorem c_Text_addNumber {P : xP} {F : xF} {z : Nat} {t : Nat} {cap : Nat} {n : Nat} {s : Nat → Nat} {v : Nat} (ht : xTx F (t) (cap) (n) (s)) (hv : v < 1000) (hsz : n + 3 ≤ cap) : xM P xy_Text_addNumber [.ref t, .int (nI (v))] F (z) 0 0 (fun r9 F9 z9 => r9 = none ∧ z9 = z ∧ xTx F9 (t) (cap) (n + dgs v) (xcat s n (dgc v)) ∧ (∀ a9 : Nat, (a9 < t ∨ t + 2 ≤ a9) → F9 a9 = F a9)) := by
  refine xM_v rfl (Nat.le_of_ble_eq_true rfl) (L0 := [some (.ref t), some (.int (nI (v))), none, none]) rfl rfl fun Θ hC hin hret => ?_
  have hag : ∀ a9 : Nat, (a9 < t ∨ t + 2 ≤ a9) → F a9 = F a9 := fun a9 _ => rfl
  have hlt := ht.2.1
  refine x_iconst hC d_Text_addNumber_0 (v := nI 1) (by decide) ?_
  refine x_istore_n hC d_Text_addNumber_1 rfl (Nat.le_of_ble_eq_true rfl) (L1 := [some (.ref t), some (.int (nI (v))), some (.int (nI 1)), none]) rfl ?_
  refine x_iconst hC d_Text_addNumber_2 (v := nI 1) (by decide) ?_
  refine x_istore_n hC d_Text_addNumber_3 rfl (Nat.le_of_ble_eq_true rfl) (L1 := [some (.ref t), some (.int (nI (v))), some (.int (nI 1)), some (.int (nI 1))]) rfl ?_
  refine x_iload_n hC d_Text_addNumber_4 rfl rfl ?_
  refine x_bipush hC d_Text_addNumber_5 (v := nI 10) (by decide) ?_
  refine x_icmpN_ge hC d_Text_addNumber_7 (tgt := 29) (by decide) (by omega) (by omega) (fun c_7 => ?_) (fun c_7 => ?_)
  · skip
    exact absurd c_7 (by omega)
  · skip
    refine x_iload_n hC d_Text_addNumber_10 rfl rfl ?_
    refine x_bipush hC d_Text_addNumber_11 (v := nI 10) (by decide) ?_
    refine x_idiv hC d_Text_addNumber_13 (x_ne0 (by omega) (by omega)) (v := (nI ((v) / (10)))) (pk_div (by omega) (by omega) (by omega)) ?_
    refine x_iload_n hC d_Text_addNumber_14 rfl rfl ?_
    refine x_icmpN_lt hC d_Text_addNumber_15 (tgt := 29) (by decide) (by omega) (by omega) (fun c_15 => ?_) (fun c_15 => ?_)
    · skip
      refine x_iload_n hC d_Text_addNumber_29 rfl rfl ?_
      refine x_ifN_le hC d_Text_addNumber_30 (tgt := 56) (by decide) (by omega) (fun c_30 => ?_) (fun c_30 => ?_)
      · skip
        exact absurd c_30 (by omega)
      · skip
        refine x_aload_n hC d_Text_addNumber_33 rfl rfl ?_
        refine x_bipush hC d_Text_addNumber_34 (v := nI 48) (by decide) ?_
        refine x_iload_n hC d_Text_addNumber_36 rfl rfl ?_
        refine x_iload_n hC d_Text_addNumber_37 rfl rfl ?_
        refine x_idiv hC d_Text_addNumber_38 (x_ne0 (by omega) (by omega)) (v := (nI ((v) / (1)))) (pk_div (by omega) (by omega) (by omega)) ?_
        refine x_bipush hC d_Text_addNumber_39 (v := nI 10) (by decide) ?_
        refine x_irem hC d_Text_addNumber_41 (x_ne0 (by omega) (by omega)) (v := (nI (((v) / (1)) % (10)))) (pk_rem (by omega) (by omega) (by omega)) ?_
        refine x_iadd hC d_Text_addNumber_42 (v := (nI (48 + (((v) / (1)) % (10))))) (x_addN rfl) ?_
        refine x_i2c hC d_Text_addNumber_43 (v := (nI (48 + (((v) / (1)) % (10))))) (x_i2cN (by omega)) ?_
        refine x_callV hC kv_Text_33 (c_Text_add1 (ht := ht) (hlt := by omega) (hc0 := by omega)) ht.1 rfl rfl (by decide) rfl rfl rfl (Nat.le_of_ble_eq_true rfl) (by decide) d_Text_addNumber_44 (fun r9 F9 z9 hp9 => ?_)
        obtain ⟨rfl, h9c, j0, hag9⟩ := hp9
        rw [h9c]
        clear h9c z9
        generalize F9 = F1 at *
        have ht : xTx F1 (t) (cap) (n + 1) (updN s n (48 + (((v) / (1)) % (10)))) := j0
        have hag : ∀ a9 : Nat, (a9 < t ∨ t + 2 ≤ a9) → F1 a9 = F a9 := fun a9 q0 => (hag9 a9 (by omega)).trans (hag a9 q0)
        have hg_44 := hag9
        clear hag9
        refine x_pop hC d_Text_addNumber_47 rfl ?_
        refine x_iload_n hC d_Text_addNumber_48 rfl rfl ?_
        refine x_bipush hC d_Text_addNumber_49 (v := nI 10) (by decide) ?_
        refine x_idiv hC d_Text_addNumber_51 (x_ne0 (by omega) (by omega)) (v := (nI (0))) (pk_div (by omega) (by omega) (by omega)) ?_
        refine x_istore_n hC d_Text_addNumber_52 rfl (Nat.le_of_ble_eq_true rfl) (L1 := [some (.ref t), some (.int (nI (v))), some (.int (nI 0)), some (.int (nI 1))]) rfl ?_
        refine x_goto hC d_Text_addNumber_53 (tgt := 29) (by decide) ?_
        refine x_iload_n hC d_Text_addNumber_29 rfl rfl ?_
        refine x_ifN_le hC d_Text_addNumber_30 (tgt := 56) (by decide) (by omega) (fun c_30 => ?_) (fun c_30 => ?_)
        · skip
          refine hret _ _ _ _ _ _ d_Text_addNumber_56 (by decide) (by decide) ?_
          have hd : dgs v = 1 := if_pos (by omega)
          rw [hd]
          exact ⟨rfl, rfl, xTx_ext ht (fun j hj => by
              unfold xcat dgc
              rw [hd]
              rcases Nat.lt_or_ge j n with q | q
              · simp [updN, q, show ¬ j = n by omega, show ¬ j = n + 1 by omega, show ¬ j = n + 2 by omega]
              · obtain ⟨i, rfl⟩ : ∃ i, j = n + i := ⟨j - n, by omega⟩
                rcases (show i = 0 by omega) with rfl <;> simp [updN] <;> omega), hag⟩
        · skip
          exact absurd c_30 (by omega)
    · skip
      refine x_iload_n hC d_Text_addNumber_18 rfl rfl ?_
      refine x_bipush hC d_Text_addNumber_19 (v := nI 10) (by decide) ?_
      refine x_imul hC d_Text_addNumber_21 (v := (nI (10))) (pk_mul _ _) ?_
      refine x_istore_n hC d_Text_addNumber_22 rfl (Nat.le_of_ble_eq_true rfl) (L1 := [some (.ref t), some (.int (nI (v))), some (.int (nI 10)), some (.int (nI 1))]) rfl ?_
      refine x_iinc hC d_Text_addNumber_23 rfl (v := (nI (2))) (x_incN 1) (Nat.le_of_ble_eq_true rfl) (L1 := [some (.ref t), some (.int (nI (v))), some (.int (nI 10)), some (.int (nI 2))]) rfl ?_
      refine x_goto hC d_Text_addNumber_26 (tgt := 4) (by decide) ?_
      refine x_iload_n hC d_Text_addNumber_4 rfl rfl ?_
      refine x_bipush hC d_Text_addNumber_5 (v := nI 10) (by decide) ?_
      refine x_icmpN_ge hC d_Text_addNumber_7 (tgt := 29) (by decide) (by omega) (by omega) (fun c_7 => ?_) (fun c_7 => ?_)
      · skip
        exact absurd c_7 (by omega)
      · skip
        refine x_iload_n hC d_Text_addNumber_10 rfl rfl ?_
        refine x_bipush hC d_Text_addNumber_11 (v := nI 10) (by decide) ?_
        refine x_idiv hC d_Text_addNumber_13 (x_ne0 (by omega) (by omega)) (v := (nI ((v) / (10)))) (pk_div (by omega) (by omega) (by omega)) ?_
        refine x_iload_n hC d_Text_addNumber_14 rfl rfl ?_
        refine x_icmpN_lt hC d_Text_addNumber_15 (tgt := 29) (by decide) (by omega) (by omega) (fun c_15 => ?_) (fun c_15 => ?_)
        · skip
          refine x_iload_n hC d_Text_addNumber_29 rfl rfl ?_
          refine x_ifN_le hC d_Text_addNumber_30 (tgt := 56) (by decide) (by omega) (fun c_30 => ?_) (fun c_30 => ?_)
          · skip
            exact absurd c_30 (by omega)
          · skip
            refine x_aload_n hC d_Text_addNumber_33 rfl rfl ?_
            refine x_bipush hC d_Text_addNumber_34 (v := nI 48) (by decide) ?_
            refine x_iload_n hC d_Text_addNumber_36 rfl rfl ?_
            refine x_iload_n hC d_Text_addNumber_37 rfl rfl ?_
            refine x_idiv hC d_Text_addNumber_38 (x_ne0 (by omega) (by omega)) (v := (nI ((v) / (10)))) (pk_div (by omega) (by omega) (by omega)) ?_
            refine x_bipush hC d_Text_addNumber_39 (v := nI 10) (by decide) ?_
            refine x_irem hC d_Text_addNumber_41 (x_ne0 (by omega) (by omega)) (v := (nI (((v) / (10)) % (10)))) (pk_rem (by omega) (by omega) (by omega)) ?_
            refine x_iadd hC d_Text_addNumber_42 (v := (nI (48 + (((v) / (10)) % (10))))) (x_addN rfl) ?_
            refine x_i2c hC d_Text_addNumber_43 (v := (nI (48 + (((v) / (10)) % (10))))) (x_i2cN (by omega)) ?_
            refine x_callV hC kv_Text_33 (c_Text_add1 (ht := ht) (hlt := by omega) (hc0 := by omega)) ht.1 rfl rfl (by decide) rfl rfl rfl (Nat.le_of_ble_eq_true rfl) (by decide) d_Text_addNumber_44 (fun r9 F9 z9 hp9 => ?_)
            obtain ⟨rfl, h9c, j0, hag9⟩ := hp9
            rw [h9c]
            clear h9c z9
            generalize F9 = F2 at *
            have ht : xTx F2 (t) (cap) (n + 1) (updN s n (48 + (((v) / (10)) % (10)))) := j0
            have hag : ∀ a9 : Nat, (a9 < t ∨ t + 2 ≤ a9) → F2 a9 = F a9 := fun a9 q0 => (hag9 a9 (by omega)).trans (hag a9 q0)
            have hg_44 := hag9
            clear hag9
            refine x_pop hC d_Text_addNumber_47 rfl ?_
            refine x_iload_n hC d_Text_addNumber_48 rfl rfl ?_
            refine x_bipush hC d_Text_addNumber_49 (v := nI 10) (by decide) ?_
            refine x_idiv hC d_Text_addNumber_51 (x_ne0 (by omega) (by omega)) (v := (nI (1))) (pk_div (by omega) (by omega) (by omega)) ?_
            refine x_istore_n hC d_Text_addNumber_52 rfl (Nat.le_of_ble_eq_true rfl) (L1 := [some (.ref t), some (.int (nI (v))), some (.int (nI 1)), some (.int (nI 2))]) rfl ?_
            refine x_goto hC d_Text_addNumber_53 (tgt := 29) (by decide) ?_
            refine x_iload_n hC d_Text_addNumber_29 rfl rfl ?_
            refine x_ifN_le hC d_Text_addNumber_30 (tgt := 56) (by decide) (by omega) (fun c_30 => ?_) (fun c_30 => ?_)
            · skip
              exact absurd c_30 (by omega)
            · skip
              refine x_aload_n hC d_Text_addNumber_33 rfl rfl ?_
              refine x_bipush hC d_Text_addNumber_34 (v := nI 48) (by decide) ?_
              refine x_iload_n hC d_Text_addNumber_36 rfl rfl ?_
              refine x_iload_n hC d_Text_addNumber_37 rfl rfl ?_
              refine x_idiv hC d_Text_addNumber_38 (x_ne0 (by omega) (by omega)) (v := (nI ((v) / (1)))) (pk_div (by omega) (by omega) (by omega)) ?_
              refine x_bipush hC d_Text_addNumber_39 (v := nI 10) (by decide) ?_
              refine x_irem hC d_Text_addNumber_41 (x_ne0 (by omega) (by omega)) (v := (nI (((v) / (1)) % (10)))) (pk_rem (by omega) (by omega) (by omega)) ?_
              refine x_iadd hC d_Text_addNumber_42 (v := (nI (48 + (((v) / (1)) % (10))))) (x_addN rfl) ?_
              refine x_i2c hC d_Text_addNumber_43 (v := (nI (48 + (((v) / (1)) % (10))))) (x_i2cN (by omega)) ?_
              refine x_callV hC kv_Text_33 (c_Text_add1 (ht := ht) (hlt := by omega) (hc0 := by omega)) ht.1 rfl rfl (by decide) rfl rfl rfl (Nat.le_of_ble_eq_true rfl) (by decide) d_Text_addNumber_44 (fun r9 F9 z9 hp9 => ?_)
              obtain ⟨rfl, h9c, j0, hag9⟩ := hp9
              rw [h9c]
              clear h9c z9
              generalize F9 = F3 at *
              have ht : xTx F3 (t) (cap) ((n + 1) + 1) (updN (updN s n (48 + (((v) / (10)) % (10)))) (n + 1) (48 + (((v) / (1)) % (10)))) := j0
              have hag : ∀ a9 : Nat, (a9 < t ∨ t + 2 ≤ a9) → F3 a9 = F a9 := fun a9 q0 => (hag9 a9 (by omega)).trans (hag a9 q0)
              have hg_44 := hag9
              clear hag9
              refine x_pop hC d_Text_addNumber_47 rfl ?_
              refine x_iload_n hC d_Text_addNumber_48 rfl rfl ?_
              refine x_bipush hC d_Text_addNumber_49 (v := nI 10) (by decide) ?_
              refine x_idiv hC d_Text_addNumber_51 (x_ne0 (by omega) (by omega)) (v := (nI (0))) (pk_div (by omega) (by omega) (by omega)) ?_
              refine x_istore_n hC d_Text_addNumber_52 rfl (Nat.le_of_ble_eq_true rfl) (L1 := [some (.ref t), some (.int (nI (v))), some (.int (nI 0)), some (.int (nI 2))]) rfl ?_
              refine x_goto hC d_Text_addNumber_53 (tgt := 29) (by decide) ?_
              refine x_iload_n hC d_Text_addNumber_29 rfl rfl ?_
              refine x_ifN_le hC d_Text_addNumber_30 (tgt := 56) (by decide) (by omega) (fun c_30 => ?_) (fun c_30 => ?_)
              · skip
                refine hret _ _ _ _ _ _ d_Text_addNumber_56 (by decide) (by decide) ?_
                have hd : dgs v = 2 := (if_neg (by omega)).trans (if_pos (by omega))
                rw [hd]
                exact ⟨rfl, rfl, xTx_ext ht (fun j hj => by
                    unfold xcat dgc
                    rw [hd]
                    rcases Nat.lt_or_ge j n with q | q
                    · simp [updN, q, show ¬ j = n by omega, show ¬ j = n + 1 by omega, show ¬ j = n + 2 by omega]
                    · obtain ⟨i, rfl⟩ : ∃ i, j = n + i := ⟨j - n, by omega⟩
                      rcases (show i = 0 ∨ i = 1 by omega) with rfl | rfl <;> simp [updN] <;> omega), hag⟩
              · skip
                exact absurd c_30 (by omega)
        · skip
          refine x_iload_n hC d_Text_addNumber_18 rfl rfl ?_
          refine x_bipush hC d_Text_addNumber_19 (v := nI 10) (by decide) ?_
          refine x_imul hC d_Text_addNumber_21 (v := (nI (100))) (pk_mul _ _) ?_
          refine x_istore_n hC d_Text_addNumber_22 rfl (Nat.le_of_ble_eq_true rfl) (L1 := [some (.ref t), some (.int (nI (v))), some (.int (nI 100)), some (.int (nI 2))]) rfl ?_
          refine x_iinc hC d_Text_addNumber_23 rfl (v := (nI (3))) (x_incN 1) (Nat.le_of_ble_eq_true rfl) (L1 := [some (.ref t), some (.int (nI (v))), some (.int (nI 100)), some (.int (nI 3))]) rfl ?_
          refine x_goto hC d_Text_addNumber_26 (tgt := 4) (by decide) ?_
          refine x_iload_n hC d_Text_addNumber_4 rfl rfl ?_
          refine x_bipush hC d_Text_addNumber_5 (v := nI 10) (by decide) ?_
          refine x_icmpN_ge hC d_Text_addNumber_7 (tgt := 29) (by decide) (by omega) (by omega) (fun c_7 => ?_) (fun c_7 => ?_)
          · skip
            exact absurd c_7 (by omega)
          · skip
            refine x_iload_n hC d_Text_addNumber_10 rfl rfl ?_
            refine x_bipush hC d_Text_addNumber_11 (v := nI 10) (by decide) ?_
            refine x_idiv hC d_Text_addNumber_13 (x_ne0 (by omega) (by omega)) (v := (nI ((v) / (10)))) (pk_div (by omega) (by omega) (by omega)) ?_
            refine x_iload_n hC d_Text_addNumber_14 rfl rfl ?_
            refine x_icmpN_lt hC d_Text_addNumber_15 (tgt := 29) (by decide) (by omega) (by omega) (fun c_15 => ?_) (fun c_15 => ?_)
            · skip
              refine x_iload_n hC d_Text_addNumber_29 rfl rfl ?_
              refine x_ifN_le hC d_Text_addNumber_30 (tgt := 56) (by decide) (by omega) (fun c_30 => ?_) (fun c_30 => ?_)
              · skip
                exact absurd c_30 (by omega)
              · skip
                refine x_aload_n hC d_Text_addNumber_33 rfl rfl ?_
                refine x_bipush hC d_Text_addNumber_34 (v := nI 48) (by decide) ?_
                refine x_iload_n hC d_Text_addNumber_36 rfl rfl ?_
                refine x_iload_n hC d_Text_addNumber_37 rfl rfl ?_
                refine x_idiv hC d_Text_addNumber_38 (x_ne0 (by omega) (by omega)) (v := (nI ((v) / (100)))) (pk_div (by omega) (by omega) (by omega)) ?_
                refine x_bipush hC d_Text_addNumber_39 (v := nI 10) (by decide) ?_
                refine x_irem hC d_Text_addNumber_41 (x_ne0 (by omega) (by omega)) (v := (nI (((v) / (100)) % (10)))) (pk_rem (by omega) (by omega) (by omega)) ?_
                refine x_iadd hC d_Text_addNumber_42 (v := (nI (48 + (((v) / (100)) % (10))))) (x_addN rfl) ?_
                refine x_i2c hC d_Text_addNumber_43 (v := (nI (48 + (((v) / (100)) % (10))))) (x_i2cN (by omega)) ?_
                refine x_callV hC kv_Text_33 (c_Text_add1 (ht := ht) (hlt := by omega) (hc0 := by omega)) ht.1 rfl rfl (by decide) rfl rfl rfl (Nat.le_of_ble_eq_true rfl) (by decide) d_Text_addNumber_44 (fun r9 F9 z9 hp9 => ?_)
                obtain ⟨rfl, h9c, j0, hag9⟩ := hp9
                rw [h9c]
                clear h9c z9
                generalize F9 = F4 at *
                have ht : xTx F4 (t) (cap) (n + 1) (updN s n (48 + (((v) / (100)) % (10)))) := j0
                have hag : ∀ a9 : Nat, (a9 < t ∨ t + 2 ≤ a9) → F4 a9 = F a9 := fun a9 q0 => (hag9 a9 (by omega)).trans (hag a9 q0)
                have hg_44 := hag9
                clear hag9
                refine x_pop hC d_Text_addNumber_47 rfl ?_
                refine x_iload_n hC d_Text_addNumber_48 rfl rfl ?_
                refine x_bipush hC d_Text_addNumber_49 (v := nI 10) (by decide) ?_
                refine x_idiv hC d_Text_addNumber_51 (x_ne0 (by omega) (by omega)) (v := (nI (10))) (pk_div (by omega) (by omega) (by omega)) ?_
                refine x_istore_n hC d_Text_addNumber_52 rfl (Nat.le_of_ble_eq_true rfl) (L1 := [some (.ref t), some (.int (nI (v))), some (.int (nI 10)), some (.int (nI 3))]) rfl ?_
                refine x_goto hC d_Text_addNumber_53 (tgt := 29) (by decide) ?_
                refine x_iload_n hC d_Text_addNumber_29 rfl rfl ?_
                refine x_ifN_le hC d_Text_addNumber_30 (tgt := 56) (by decide) (by omega) (fun c_30 => ?_) (fun c_30 => ?_)
                · skip
                  exact absurd c_30 (by omega)
                · skip
                  refine x_aload_n hC d_Text_addNumber_33 rfl rfl ?_
                  refine x_bipush hC d_Text_addNumber_34 (v := nI 48) (by decide) ?_
                  refine x_iload_n hC d_Text_addNumber_36 rfl rfl ?_
                  refine x_iload_n hC d_Text_addNumber_37 rfl rfl ?_
                  refine x_idiv hC d_Text_addNumber_38 (x_ne0 (by omega) (by omega)) (v := (nI ((v) / (10)))) (pk_div (by omega) (by omega) (by omega)) ?_
                  refine x_bipush hC d_Text_addNumber_39 (v := nI 10) (by decide) ?_
                  refine x_irem hC d_Text_addNumber_41 (x_ne0 (by omega) (by omega)) (v := (nI (((v) / (10)) % (10)))) (pk_rem (by omega) (by omega) (by omega)) ?_
                  refine x_iadd hC d_Text_addNumber_42 (v := (nI (48 + (((v) / (10)) % (10))))) (x_addN rfl) ?_
                  refine x_i2c hC d_Text_addNumber_43 (v := (nI (48 + (((v) / (10)) % (10))))) (x_i2cN (by omega)) ?_
                  refine x_callV hC kv_Text_33 (c_Text_add1 (ht := ht) (hlt := by omega) (hc0 := by omega)) ht.1 rfl rfl (by decide) rfl rfl rfl (Nat.le_of_ble_eq_true rfl) (by decide) d_Text_addNumber_44 (fun r9 F9 z9 hp9 => ?_)
                  obtain ⟨rfl, h9c, j0, hag9⟩ := hp9
                  rw [h9c]
                  clear h9c z9
                  generalize F9 = F5 at *
                  have ht : xTx F5 (t) (cap) ((n + 1) + 1) (updN (updN s n (48 + (((v) / (100)) % (10)))) (n + 1) (48 + (((v) / (10)) % (10)))) := j0
                  have hag : ∀ a9 : Nat, (a9 < t ∨ t + 2 ≤ a9) → F5 a9 = F a9 := fun a9 q0 => (hag9 a9 (by omega)).trans (hag a9 q0)
                  have hg_44 := hag9
                  clear hag9
                  refine x_pop hC d_Text_addNumber_47 rfl ?_
                  refine x_iload_n hC d_Text_addNumber_48 rfl rfl ?_
                  refine x_bipush hC d_Text_addNumber_49 (v := nI 10) (by decide) ?_
                  refine x_idiv hC d_Text_addNumber_51 (x_ne0 (by omega) (by omega)) (v := (nI (1))) (pk_div (by omega) (by omega) (by omega)) ?_
                  refine x_istore_n hC d_Text_addNumber_52 rfl (Nat.le_of_ble_eq_true rfl) (L1 := [some (.ref t), some (.int (nI (v))), some (.int (nI 1)), some (.int (nI 3))]) rfl ?_
                  refine x_goto hC d_Text_addNumber_53 (tgt := 29) (by decide) ?_
                  refine x_iload_n hC d_Text_addNumber_29 rfl rfl ?_
                  refine x_ifN_le hC d_Text_addNumber_30 (tgt := 56) (by decide) (by omega) (fun c_30 => ?_) (fun c_30 => ?_)
                  · skip
                    exact absurd c_30 (by omega)
                  · skip
                    refine x_aload_n hC d_Text_addNumber_33 rfl rfl ?_
                    refine x_bipush hC d_Text_addNumber_34 (v := nI 48) (by decide) ?_
                    refine x_iload_n hC d_Text_addNumber_36 rfl rfl ?_
                    refine x_iload_n hC d_Text_addNumber_37 rfl rfl ?_
                    refine x_idiv hC d_Text_addNumber_38 (x_ne0 (by omega) (by omega)) (v := (nI ((v) / (1)))) (pk_div (by omega) (by omega) (by omega)) ?_
                    refine x_bipush hC d_Text_addNumber_39 (v := nI 10) (by decide) ?_
                    refine x_irem hC d_Text_addNumber_41 (x_ne0 (by omega) (by omega)) (v := (nI (((v) / (1)) % (10)))) (pk_rem (by omega) (by omega) (by omega)) ?_
                    refine x_iadd hC d_Text_addNumber_42 (v := (nI (48 + (((v) / (1)) % (10))))) (x_addN rfl) ?_
                    refine x_i2c hC d_Text_addNumber_43 (v := (nI (48 + (((v) / (1)) % (10))))) (x_i2cN (by omega)) ?_
                    refine x_callV hC kv_Text_33 (c_Text_add1 (ht := ht) (hlt := by omega) (hc0 := by omega)) ht.1 rfl rfl (by decide) rfl rfl rfl (Nat.le_of_ble_eq_true rfl) (by decide) d_Text_addNumber_44 (fun r9 F9 z9 hp9 => ?_)
                    obtain ⟨rfl, h9c, j0, hag9⟩ := hp9
                    rw [h9c]
                    clear h9c z9
                    generalize F9 = F6 at *
                    have ht : xTx F6 (t) (cap) ((n + 2) + 1) (updN (updN (updN s n (48 + (((v) / (100)) % (10)))) (n + 1) (48 + (((v) / (10)) % (10)))) (n + 2) (48 + (((v) / (1)) % (10)))) := j0
                    have hag : ∀ a9 : Nat, (a9 < t ∨ t + 2 ≤ a9) → F6 a9 = F a9 := fun a9 q0 => (hag9 a9 (by omega)).trans (hag a9 q0)
                    have hg_44 := hag9
                    clear hag9
                    refine x_pop hC d_Text_addNumber_47 rfl ?_
                    refine x_iload_n hC d_Text_addNumber_48 rfl rfl ?_
                    refine x_bipush hC d_Text_addNumber_49 (v := nI 10) (by decide) ?_
                    refine x_idiv hC d_Text_addNumber_51 (x_ne0 (by omega) (by omega)) (v := (nI (0))) (pk_div (by omega) (by omega) (by omega)) ?_
                    refine x_istore_n hC d_Text_addNumber_52 rfl (Nat.le_of_ble_eq_true rfl) (L1 := [some (.ref t), some (.int (nI (v))), some (.int (nI 0)), some (.int (nI 3))]) rfl ?_
                    refine x_goto hC d_Text_addNumber_53 (tgt := 29) (by decide) ?_
                    refine x_iload_n hC d_Text_addNumber_29 rfl rfl ?_
                    refine x_ifN_le hC d_Text_addNumber_30 (tgt := 56) (by decide) (by omega) (fun c_30 => ?_) (fun c_30 => ?_)
                    · skip
                      refine hret _ _ _ _ _ _ d_Text_addNumber_56 (by decide) (by decide) ?_
                      have hd : dgs v = 3 := (if_neg (by omega)).trans (if_neg (by omega))
                      rw [hd]
                      exact ⟨rfl, rfl, xTx_ext ht (fun j hj => by
                          unfold xcat dgc
                          rw [hd]
                          rcases Nat.lt_or_ge j n with q | q
                          · simp [updN, q, show ¬ j = n by omega, show ¬ j = n + 1 by omega, show ¬ j = n + 2 by omega]
                          · obtain ⟨i, rfl⟩ : ∃ i, j = n + i := ⟨j - n, by omega⟩
                            rcases (show i = 0 ∨ i = 1 ∨ i = 2 by omega) with rfl | rfl | rfl <;> simp [updN] <;> omega), hag⟩
                    · skip
                      exact absurd c_30 (by omega)
            · skip
              exact absurd c_15 (by omega)

theorem lcs_step (a b : Nat → Nat) {i j : Nat} (hj : 1 ≤ j) : lcs a b (i + 1) j = if a i = b (j - 1) then lcs a b i (j - 1) + 1 else if lcs a b i j < lcs a b (i + 1) (j - 1) then lcs a b (i + 1) (j - 1) else lcs a b i j := by
  obtain ⟨q, rfl⟩ : ∃ q, j = q + 1 := ⟨j - 1, by omega⟩
  rw [lcs]
  rfl
theorem lcs_z (a b : Nat → Nat) : ∀ j, lcs a b 0 j = 0
  | 0 => lcs_0 a b 0
  | _ + 1 => by unfold lcs; rfl
theorem d_Text_commonWith_0 : decode prog_12_method_11_code 0 = .ok (.iconst 0, 1) := by decide +kernel
theorem d_Text_commonWith_1 : decode prog_12_method_11_code 1 = .ok (.istore_n 3, 1) := by decide +kernel
theorem d_Text_commonWith_2 : decode prog_12_method_11_code 2 = .ok (.iload_n 3, 1) := by decide +kernel
theorem d_Text_commonWith_3 : decode prog_12_method_11_code 3 = .ok (.aload_n 2, 1) := by decide +kernel
theorem d_Text_commonWith_4 : decode prog_12_method_11_code 4 = .ok (.arraylength, 1) := by decide +kernel
theorem d_Text_commonWith_5 : decode prog_12_method_11_code 5 = .ok (.if_icmp .ge 13, 3) := by decide +kernel
theorem d_Text_commonWith_8 : decode prog_12_method_11_code 8 = .ok (.aload_n 2, 1) := by decide +kernel
theorem d_Text_commonWith_9 : decode prog_12_method_11_code 9 = .ok (.iload_n 3, 1) := by decide +kernel
theorem d_Text_commonWith_10 : decode prog_12_method_11_code 10 = .ok (.iconst 0, 1) := by decide +kernel
theorem d_Text_commonWith_11 : decode prog_12_method_11_code 11 = .ok (.iastore, 1) := by decide +kernel
theorem d_Text_commonWith_12 : decode prog_12_method_11_code 12 = .ok (.iinc 3 1, 3) := by decide +kernel
theorem d_Text_commonWith_15 : decode prog_12_method_11_code 15 = .ok (.goto (-13), 3) := by decide +kernel
theorem d_Text_commonWith_18 : decode prog_12_method_11_code 18 = .ok (.iconst 0, 1) := by decide +kernel
theorem d_Text_commonWith_19 : decode prog_12_method_11_code 19 = .ok (.istore_n 3, 1) := by decide +kernel
theorem d_Text_commonWith_20 : decode prog_12_method_11_code 20 = .ok (.iconst 0, 1) := by decide +kernel
theorem d_Text_commonWith_21 : decode prog_12_method_11_code 21 = .ok (.istore 4, 2) := by decide +kernel
theorem d_Text_commonWith_23 : decode prog_12_method_11_code 23 = .ok (.iload 4, 2) := by decide +kernel
theorem d_Text_commonWith_25 : decode prog_12_method_11_code 25 = .ok (.aload_n 0, 1) := by decide +kernel
theorem d_Text_commonWith_26 : decode prog_12_method_11_code 26 = .ok (.getfield 21, 3) := by decide +kernel
theorem d_Text_commonWith_29 : decode prog_12_method_11_code 29 = .ok (.if_icmp .ge 88, 3) := by decide +kernel
theorem d_Text_commonWith_32 : decode prog_12_method_11_code 32 = .ok (.iconst 0, 1) := by decide +kernel
theorem d_Text_commonWith_33 : decode prog_12_method_11_code 33 = .ok (.istore 5, 2) := by decide +kernel
theorem d_Text_commonWith_35 : decode prog_12_method_11_code 35 = .ok (.iconst 1, 1) := by decide +kernel
theorem d_Text_commonWith_36 : decode prog_12_method_11_code 36 = .ok (.istore 6, 2) := by decide +kernel
theorem d_Text_commonWith_38 : decode prog_12_method_11_code 38 = .ok (.iload 6, 2) := by decide +kernel
theorem d_Text_commonWith_40 : decode prog_12_method_11_code 40 = .ok (.aload_n 1, 1) := by decide +kernel
theorem d_Text_commonWith_41 : decode prog_12_method_11_code 41 = .ok (.getfield 21, 3) := by decide +kernel
theorem d_Text_commonWith_44 : decode prog_12_method_11_code 44 = .ok (.if_icmp .gt 67, 3) := by decide +kernel
theorem d_Text_commonWith_47 : decode prog_12_method_11_code 47 = .ok (.iload 6, 2) := by decide +kernel
theorem d_Text_commonWith_49 : decode prog_12_method_11_code 49 = .ok (.aload_n 2, 1) := by decide +kernel
theorem d_Text_commonWith_50 : decode prog_12_method_11_code 50 = .ok (.arraylength, 1) := by decide +kernel
theorem d_Text_commonWith_51 : decode prog_12_method_11_code 51 = .ok (.if_icmp .ge 60, 3) := by decide +kernel
theorem d_Text_commonWith_54 : decode prog_12_method_11_code 54 = .ok (.aload_n 2, 1) := by decide +kernel
theorem d_Text_commonWith_55 : decode prog_12_method_11_code 55 = .ok (.iload 6, 2) := by decide +kernel
theorem d_Text_commonWith_57 : decode prog_12_method_11_code 57 = .ok (.iaload, 1) := by decide +kernel
theorem d_Text_commonWith_58 : decode prog_12_method_11_code 58 = .ok (.istore 7, 2) := by decide +kernel
theorem d_Text_commonWith_60 : decode prog_12_method_11_code 60 = .ok (.aload_n 0, 1) := by decide +kernel
theorem d_Text_commonWith_61 : decode prog_12_method_11_code 61 = .ok (.iload 4, 2) := by decide +kernel
theorem d_Text_commonWith_63 : decode prog_12_method_11_code 63 = .ok (.invokevirtual 29, 3) := by decide +kernel
theorem d_Text_commonWith_66 : decode prog_12_method_11_code 66 = .ok (.aload_n 1, 1) := by decide +kernel
theorem d_Text_commonWith_67 : decode prog_12_method_11_code 67 = .ok (.iload 6, 2) := by decide +kernel
theorem d_Text_commonWith_69 : decode prog_12_method_11_code 69 = .ok (.iconst 1, 1) := by decide +kernel
theorem d_Text_commonWith_70 : decode prog_12_method_11_code 70 = .ok (.isub, 1) := by decide +kernel
theorem d_Text_commonWith_71 : decode prog_12_method_11_code 71 = .ok (.invokevirtual 29, 3) := by decide +kernel
theorem d_Text_commonWith_74 : decode prog_12_method_11_code 74 = .ok (.if_icmp .ne 10, 3) := by decide +kernel
theorem d_Text_commonWith_77 : decode prog_12_method_11_code 77 = .ok (.iload 5, 2) := by decide +kernel
theorem d_Text_commonWith_79 : decode prog_12_method_11_code 79 = .ok (.iconst 1, 1) := by decide +kernel
theorem d_Text_commonWith_80 : decode prog_12_method_11_code 80 = .ok (.iadd, 1) := by decide +kernel
theorem d_Text_commonWith_81 : decode prog_12_method_11_code 81 = .ok (.goto 14, 3) := by decide +kernel
theorem d_Text_commonWith_84 : decode prog_12_method_11_code 84 = .ok (.iload 7, 2) := by decide +kernel
theorem d_Text_commonWith_86 : decode prog_12_method_11_code 86 = .ok (.aload_n 2, 1) := by decide +kernel
theorem d_Text_commonWith_87 : decode prog_12_method_11_code 87 = .ok (.iload 6, 2) := by decide +kernel
theorem d_Text_commonWith_89 : decode prog_12_method_11_code 89 = .ok (.iconst 1, 1) := by decide +kernel
theorem d_Text_commonWith_90 : decode prog_12_method_11_code 90 = .ok (.isub, 1) := by decide +kernel
theorem d_Text_commonWith_91 : decode prog_12_method_11_code 91 = .ok (.iaload, 1) := by decide +kernel
theorem d_Text_commonWith_92 : decode prog_12_method_11_code 92 = .ok (.invokestatic 9, 3) := by decide +kernel
theorem d_Text_commonWith_95 : decode prog_12_method_11_code 95 = .ok (.istore_n 3, 1) := by decide +kernel
theorem d_Text_commonWith_96 : decode prog_12_method_11_code 96 = .ok (.aload_n 2, 1) := by decide +kernel
theorem d_Text_commonWith_97 : decode prog_12_method_11_code 97 = .ok (.iload 6, 2) := by decide +kernel
theorem d_Text_commonWith_99 : decode prog_12_method_11_code 99 = .ok (.iload_n 3, 1) := by decide +kernel
theorem d_Text_commonWith_100 : decode prog_12_method_11_code 100 = .ok (.iastore, 1) := by decide +kernel
theorem d_Text_commonWith_101 : decode prog_12_method_11_code 101 = .ok (.iload 7, 2) := by decide +kernel
theorem d_Text_commonWith_103 : decode prog_12_method_11_code 103 = .ok (.istore 5, 2) := by decide +kernel
theorem d_Text_commonWith_105 : decode prog_12_method_11_code 105 = .ok (.iinc 6 1, 3) := by decide +kernel
theorem d_Text_commonWith_108 : decode prog_12_method_11_code 108 = .ok (.goto (-70), 3) := by decide +kernel
theorem d_Text_commonWith_111 : decode prog_12_method_11_code 111 = .ok (.iinc 4 1, 3) := by decide +kernel
theorem d_Text_commonWith_114 : decode prog_12_method_11_code 114 = .ok (.goto (-91), 3) := by decide +kernel
theorem d_Text_commonWith_117 : decode prog_12_method_11_code 117 = .ok (.iload_n 3, 1) := by decide +kernel
theorem d_Text_commonWith_118 : decode prog_12_method_11_code 118 = .ok (.ireturn, 1) := by decide +kernel
set_option maxHeartbeats 4000000 in
set_option maxRecDepth 20000 in
theorem c_Text_commonWith {P : xP} {F : xF} {z : Nat} {t : Nat} {cap : Nat} {n : Nat} {s : Nat → Nat} {o : Nat} {capo : Nat} {m : Nat} {u : Nat → Nat} {r : Nat} {g : Nat → Nat} (ht : xTx F (t) (cap) (n) (s)) (ho : xTx F (o) (capo) (m) (u)) (hr : F (r) = some (.inr (0, 17, fun b9 => .int (nI (g b9))))) (hn : n ≤ 16) (hm : m ≤ 16) (hd1 : r < t ∨ t + 2 ≤ r) (hd2 : r < o ∨ o + 2 ≤ r) : xM P xy_Text_commonWith [.ref t, .ref o, .ref r] F (z) 0 0 (fun r9 F9 z9 => ∃ g1 : Nat → Nat, r9 = some (.int (nI (lcs s u n m))) ∧ z9 = z ∧ F9 (r) = some (.inr (0, 17, fun b9 => .int (nI (g1 b9)))) ∧ (∀ a9 : Nat, (a9 < r ∨ r + 1 ≤ a9) → F9 a9 = F a9)) := by
  refine xM_i .int rfl (Nat.le_of_ble_eq_true rfl) (L0 := [some (.ref t), some (.ref o), some (.ref r), none, none, none, none, none]) rfl rfl fun Θ hC hret => ?_
  have hag : ∀ a9 : Nat, (a9 < r ∨ r + 1 ≤ a9) → F a9 = F a9 := fun a9 _ => rfl
  have hlt := ht.2.1
  have hlo := ho.2.1
  refine x_iconst hC d_Text_commonWith_0 (v := nI 0) (by decide) ?_
  refine x_istore_n hC d_Text_commonWith_1 rfl (Nat.le_of_ble_eq_true rfl) (L1 := [some (.ref t), some (.ref o), some (.ref r), some (.int (nI 0)), none, none, none, none]) rfl ?_
  have loop_2 : ∀ (m9 : Nat) (Fh2 : xF) (b : Nat) (g0 : Nat → Nat), (xTx Fh2 (t) (cap) (n) (s)) → (xTx Fh2 (o) (capo) (m) (u)) → (Fh2 (r) = some (.inr (0, 17, fun b9 => .int (nI (g0 b9))))) → (∀ a9 : Nat, (a9 < r ∨ r + 1 ≤ a9) → Fh2 a9 = F a9) → (b ≤ 17) → (∀ q, q < b → g0 q = 0) → (17 - b < m9) → xX P Θ 2 [some (.ref t), some (.ref o), some (.ref r), some (.int (nI (b))), none, none, none, none] [] Fh2 (z) 0 0 := by
    intro m9
    induction m9 with
    | zero => intros; omega
    | succ m9 ih_2 =>
      intro Fh2 b g0 ht ho hr hag hb kz hm_2
      refine x_iload_n hC d_Text_commonWith_2 rfl rfl ?_
      refine x_aload_n hC d_Text_commonWith_3 rfl rfl ?_
      refine x_alen hC hr (by decide) rfl d_Text_commonWith_4 ?_
      refine x_icmpN_ge hC d_Text_commonWith_5 (tgt := 18) (by decide) (by omega) (by omega) (fun c_5 => ?_) (fun c_5 => ?_)
      · skip
        refine x_iconst hC d_Text_commonWith_18 (v := nI 0) (by decide) ?_
        refine x_istore_n hC d_Text_commonWith_19 rfl (Nat.le_of_ble_eq_true rfl) (L1 := [some (.ref t), some (.ref o), some (.ref r), some (.int (nI 0)), none, none, none, none]) rfl ?_
        refine x_iconst hC d_Text_commonWith_20 (v := nI 0) (by decide) ?_
        refine x_istore hC d_Text_commonWith_21 (Nat.le_of_ble_eq_true rfl) (L1 := [some (.ref t), some (.ref o), some (.ref r), some (.int (nI 0)), some (.int (nI 0)), none, none, none]) rfl ?_
        have loop_23 : ∀ (m9 : Nat) (Fh23 : xF) (i : Nat) (g2 : Nat → Nat) (cm0 : Nat), (xTx Fh23 (t) (cap) (n) (s)) → (xTx Fh23 (o) (capo) (m) (u)) → (Fh23 (r) = some (.inr (0, 17, fun b9 => .int (nI (g2 b9))))) → (∀ a9 : Nat, (a9 < r ∨ r + 1 ≤ a9) → Fh23 a9 = F a9) → (i ≤ n) → (∀ b, b ≤ m → g2 b = lcs s u i b) → (cm0 = lcs s u i m) → (n - i < m9) → xX P Θ 23 [some (.ref t), some (.ref o), some (.ref r), some (.int (nI (cm0))), some (.int (nI (i))), none, none, none] [] Fh23 (z) 0 0 := by
          intro m9
          induction m9 with
          | zero => intros; omega
          | succ m9 ih_23 =>
            intro Fh23 i g2 cm0 ht ho hr hag hi k0 kc0 hm_23
            refine x_iload hC d_Text_commonWith_23 rfl ?_
            refine x_aload_n hC d_Text_commonWith_25 rfl rfl ?_
            refine x_getf hC kf_Text_21 ht.1 rfl d_Text_commonWith_26 ?_
            refine x_icmpN_ge hC d_Text_commonWith_29 (tgt := 117) (by decide) (by omega) (by omega) (fun c_29 => ?_) (fun c_29 => ?_)
            · skip
              refine x_iload_n hC d_Text_commonWith_117 rfl rfl ?_
              exact hret _ _ _ _ _ _ _ d_Text_commonWith_118 (by decide) (by decide) rfl (⟨g2, by rw [kc0, show i = n by omega], rfl, hr, hag⟩)
            · skip
              refine x_iconst hC d_Text_commonWith_32 (v := nI 0) (by decide) ?_
              refine x_istore hC d_Text_commonWith_33 (Nat.le_of_ble_eq_true rfl) (L1 := [some (.ref t), some (.ref o), some (.ref r), some (.int (nI (cm0))), some (.int (nI (i))), some (.int (nI 0)), none, none]) rfl ?_
              refine x_iconst hC d_Text_commonWith_35 (v := nI 1) (by decide) ?_
              refine x_istore hC d_Text_commonWith_36 (Nat.le_of_ble_eq_true rfl) (L1 := [some (.ref t), some (.ref o), some (.ref r), some (.int (nI (cm0))), some (.int (nI (i))), some (.int (nI 0)), some (.int (nI 1)), none]) rfl ?_
              have loop_38 : ∀ (m9 : Nat) (Fh38 : xF) (j : Nat) (g3 : Nat → Nat) (dg : Nat) (cm : Nat), (xTx Fh38 (t) (cap) (n) (s)) → (xTx Fh38 (o) (capo) (m) (u)) → (Fh38 (r) = some (.inr (0, 17, fun b9 => .int (nI (g3 b9))))) → (∀ a9 : Nat, (a9 < r ∨ r + 1 ≤ a9) → Fh38 a9 = F a9) → (1 ≤ j ∧ j ≤ m + 1) → (dg = lcs s u i (j - 1)) → (cm = lcs s u (i + 1) (j - 1) ∨ (j = 1 ∧ cm = lcs s u i m)) → (∀ b, b < j → g3 b = lcs s u (i + 1) b) → (∀ b, j ≤ b → b ≤ m → g3 b = lcs s u i b) → (m + 1 - j < m9) → xX P Θ 38 [some (.ref t), some (.ref o), some (.ref r), some (.int (nI (cm))), some (.int (nI (i))), some (.int (nI (dg))), some (.int (nI (j))), none] [] Fh38 (z) 0 0 := by
                intro m9
                induction m9 with
                | zero => intros; omega
                | succ m9 ih_38 =>
                  intro Fh38 j g3 dg cm ht ho hr hag hj kd kc k1 k2 hm_38
                  have hdg : dg ≤ 1000 := by rw [kd]; have := lcs_le s u i (j - 1); omega
                  refine x_iload hC d_Text_commonWith_38 rfl ?_
                  refine x_aload_n hC d_Text_commonWith_40 rfl rfl ?_
                  refine x_getf hC kf_Text_21 ho.1 rfl d_Text_commonWith_41 ?_
                  refine x_icmpN_gt hC d_Text_commonWith_44 (tgt := 111) (by decide) (by omega) (by omega) (fun c_44 => ?_) (fun c_44 => ?_)
                  · skip
                    refine x_iinc hC d_Text_commonWith_111 rfl (v := (nI (i + 1))) (x_incN 1) (Nat.le_of_ble_eq_true rfl) (L1 := [some (.ref t), some (.ref o), some (.ref r), some (.int (nI (cm))), some (.int (nI (i + 1))), some (.int (nI (dg))), some (.int (nI (j))), none]) rfl ?_
                    refine x_goto hC d_Text_commonWith_114 (tgt := 23) (by decide) ?_
                    refine x_forget (L1 := [some (.ref t), some (.ref o), some (.ref r), some (.int (nI (cm))), some (.int (nI (i + 1))), none, none, none]) ⟨Or.inr rfl, ⟨Or.inr rfl, ⟨Or.inr rfl, ⟨Or.inr rfl, ⟨Or.inr rfl, ⟨Or.inl rfl, ⟨Or.inl rfl, ⟨Or.inl rfl, trivial⟩⟩⟩⟩⟩⟩⟩⟩ ?_
                    exact ih_23 Fh38 (i + 1) (g3) (cm) ht ho hr hag (by omega) (fun b hb => k1 b (by omega)) (kc.elim (fun e => by rw [e, show j - 1 = m by omega]) (fun e => by rw [e.2, show m = 0 by omega, lcs_0, lcs_0])) (by omega)
                  · skip
                    refine x_iload hC d_Text_commonWith_47 rfl ?_
                    refine x_aload_n hC d_Text_commonWith_49 rfl rfl ?_
                    refine x_alen hC hr (by decide) rfl d_Text_commonWith_50 ?_
                    refine x_icmpN_ge hC d_Text_commonWith_51 (tgt := 111) (by decide) (by omega) (by omega) (fun c_51 => ?_) (fun c_51 => ?_)
                    · skip
                      refine x_iinc hC d_Text_commonWith_111 rfl (v := (nI (i + 1))) (x_incN 1) (Nat.le_of_ble_eq_true rfl) (L1 := [some (.ref t), some (.ref o), some (.ref r), some (.int (nI (cm))), some (.int (nI (i + 1))), some (.int (nI (dg))), some (.int (nI (j))), none]) rfl ?_
                      refine x_goto hC d_Text_commonWith_114 (tgt := 23) (by decide) ?_
                      refine x_forget (L1 := [some (.ref t), some (.ref o), some (.ref r), some (.int (nI (cm))), some (.int (nI (i + 1))), none, none, none]) ⟨Or.inr rfl, ⟨Or.inr rfl, ⟨Or.inr rfl, ⟨Or.inr rfl, ⟨Or.inr rfl, ⟨Or.inl rfl, ⟨Or.inl rfl, ⟨Or.inl rfl, trivial⟩⟩⟩⟩⟩⟩⟩⟩ ?_
                      exact ih_23 Fh38 (i + 1) (g3) (cm) ht ho hr hag (by omega) (fun b hb => k1 b (by omega)) (kc.elim (fun e => by rw [e, show j - 1 = m by omega]) (fun e => by rw [e.2, show m = 0 by omega, lcs_0, lcs_0])) (by omega)
                    · skip
                      have hb1 : (if i < n then s i else 0) < 2 ^ 31 := by rw [if_pos (by omega)]; have := ht.2.2.1 i (by omega); omega
                      have hb2 : (if j - 1 < m then u (j - 1) else 0) < 2 ^ 31 := by rw [if_pos (by omega)]; have := ho.2.2.1 (j - 1) (by omega); omega
                      have hb3 : g3 j ≤ 1000 := by rw [k2 j (by omega) (by omega)]; have := lcs_le s u i j; omega
                      have hb4 : g3 (j - 1) ≤ 1000 := by rw [k1 (j - 1) (by omega)]; have := lcs_le s u (i + 1) (j - 1); omega
                      refine x_aload_n hC d_Text_commonWith_54 rfl rfl ?_
                      refine x_iload hC d_Text_commonWith_55 rfl ?_
                      refine x_iald hC hr (j := j) ⟨rfl, by omega, by omega⟩ (x := nI (g3 (j))) rfl d_Text_commonWith_57 ?_
                      refine x_istore hC d_Text_commonWith_58 (Nat.le_of_ble_eq_true rfl) (L1 := [some (.ref t), some (.ref o), some (.ref r), some (.int (nI (cm))), some (.int (nI (i))), some (.int (nI (dg))), some (.int (nI (j))), some (.int (nI (g3 (j))))]) rfl ?_
                      refine x_aload_n hC d_Text_commonWith_60 rfl rfl ?_
                      refine x_iload hC d_Text_commonWith_61 rfl ?_
                      refine x_callV hC kv_Text_29 (c_Text_at (ht := ht) (hi := by omega)) ht.1 rfl rfl (by decide) rfl rfl rfl (Nat.le_of_ble_eq_true rfl) (by decide) d_Text_commonWith_63 (fun r9 F9 z9 hp9 => ?_)
                      obtain ⟨rfl, h9b, h9c⟩ := hp9
                      rw [h9b, h9c]
                      clear h9b h9c F9 z9
                      refine x_aload_n hC d_Text_commonWith_66 rfl rfl ?_
                      refine x_iload hC d_Text_commonWith_67 rfl ?_
                      refine x_iconst hC d_Text_commonWith_69 (v := nI 1) (by decide) ?_
                      refine x_isub hC d_Text_commonWith_70 (v := (nI ((j) - 1))) (pk_sub (by omega)) ?_
                      refine x_callV hC kv_Text_29 (c_Text_at (ht := ho) (hi := by omega)) ho.1 rfl rfl (by decide) rfl rfl rfl (Nat.le_of_ble_eq_true rfl) (by decide) d_Text_commonWith_71 (fun r9 F9 z9 hp9 => ?_)
                      obtain ⟨rfl, h9b, h9c⟩ := hp9
                      rw [h9b, h9c]
                      clear h9b h9c F9 z9
                      refine x_icmpN_ne hC d_Text_commonWith_74 (tgt := 84) (by decide) (by omega) (by omega) (fun c_74 => ?_) (fun c_74 => ?_)
                      · skip
                        refine x_iload hC d_Text_commonWith_84 rfl ?_
                        refine x_aload_n hC d_Text_commonWith_86 rfl rfl ?_
                        refine x_iload hC d_Text_commonWith_87 rfl ?_
                        refine x_iconst hC d_Text_commonWith_89 (v := nI 1) (by decide) ?_
                        refine x_isub hC d_Text_commonWith_90 (v := (nI ((j) - 1))) (pk_sub (by omega)) ?_
                        refine x_iald hC hr (j := (j) - 1) ⟨rfl, by omega, by omega⟩ (x := nI (g3 ((j) - 1))) rfl d_Text_commonWith_91 ?_
                        refine x_mmaxN hC km_Text_9 (by omega) (by omega) rfl (by decide) (Nat.le_of_ble_eq_true rfl) (by decide) d_Text_commonWith_92 (v := if g3 (j) < g3 ((j) - 1) then g3 ((j) - 1) else g3 (j)) rfl ?_
                        obtain ⟨cm1, hcm1⟩ : ∃ c9 : Nat, c9 = if g3 (j) < g3 ((j) - 1) then g3 ((j) - 1) else g3 (j) := ⟨_, rfl⟩
                        rw [← hcm1]
                        rw [if_pos (by omega), if_pos (by omega)] at c_74
                        have hcm : cm1 = lcs s u (i + 1) j := by rw [hcm1, lcs_step s u (by omega), if_neg c_74, k2 j (by omega) (by omega), k1 (j - 1) (by omega)]
                        refine x_istore_n hC d_Text_commonWith_95 rfl (Nat.le_of_ble_eq_true rfl) (L1 := [some (.ref t), some (.ref o), some (.ref r), some (.int (nI (cm1))), some (.int (nI (i))), some (.int (nI (dg))), some (.int (nI (j))), some (.int (nI (g3 (j))))]) rfl ?_
                        refine x_aload_n hC d_Text_commonWith_96 rfl rfl ?_
                        refine x_iload hC d_Text_commonWith_97 rfl ?_
                        refine x_iload_n hC d_Text_commonWith_99 rfl rfl ?_
                        refine x_iast hC hr (j := j) ⟨rfl, by omega, by omega⟩ d_Text_commonWith_100 (g1 := fun b9 => nI (updN g3 (j) (cm1) b9)) (x_updN _ _ _) ?_
                        generalize eg1 : updN g3 (j) (cm1) = gw1
                        generalize e2 : xup Fh38 (r) (.inr (0, 17, fun b9 => .int (nI (gw1 b9)))) = F2
                        have ht : xTx F2 (t) (cap) (n) (s) := xTx_fr ht (fun a9 q1 q2 => by rw [← e2]; exact xup_ne (by omega))
                        have ho : xTx F2 (o) (capo) (m) (u) := xTx_fr ho (fun a9 q1 q2 => by rw [← e2]; exact xup_ne (by omega))
                        have hr : F2 (r) = some (.inr (0, 17, fun b9 => .int (nI (gw1 b9)))) := by rw [← e2]; exact xup_eq
                        have hag : ∀ a9 : Nat, (a9 < r ∨ r + 1 ≤ a9) → F2 a9 = F a9 := fun a9 q0 => by rw [← e2]; exact (xup_ne (by omega)).trans (hag a9 q0)
                        refine x_iload hC d_Text_commonWith_101 rfl ?_
                        refine x_istore hC d_Text_commonWith_103 (Nat.le_of_ble_eq_true rfl) (L1 := [some (.ref t), some (.ref o), some (.ref r), some (.int (nI (cm1))), some (.int (nI (i))), some (.int (nI (g3 (j)))), some (.int (nI (j))), some (.int (nI (g3 (j))))]) rfl ?_
                        refine x_iinc hC d_Text_commonWith_105 rfl (v := (nI (j + 1))) (x_incN 1) (Nat.le_of_ble_eq_true rfl) (L1 := [some (.ref t), some (.ref o), some (.ref r), some (.int (nI (cm1))), some (.int (nI (i))), some (.int (nI (g3 (j)))), some (.int (nI (j + 1))), some (.int (nI (g3 (j))))]) rfl ?_
                        refine x_goto hC d_Text_commonWith_108 (tgt := 38) (by decide) ?_
                        refine x_forget (L1 := [some (.ref t), some (.ref o), some (.ref r), some (.int (nI (cm1))), some (.int (nI (i))), some (.int (nI (g3 (j)))), some (.int (nI (j + 1))), none]) ⟨Or.inr rfl, ⟨Or.inr rfl, ⟨Or.inr rfl, ⟨Or.inr rfl, ⟨Or.inr rfl, ⟨Or.inr rfl, ⟨Or.inr rfl, ⟨Or.inl rfl, trivial⟩⟩⟩⟩⟩⟩⟩⟩ ?_
                        exact ih_38 F2 (j + 1) (gw1) (g3 (j)) (cm1) ht ho hr hag (by omega) (by rw [k2 j (by omega) (by omega)]; rfl) (Or.inl (by rw [hcm]; rfl)) (fun b hb => (Nat.lt_or_ge b j).elim (fun q => by rw [← eg1, updN_ne (by omega)]; exact k1 b q) (fun q => by rw [← eg1, show b = j by omega, updN_eq, hcm])) (fun b hb hb2 => by rw [← eg1, updN_ne (by omega)]; exact k2 b (by omega) hb2) (by omega)
                      · skip
                        refine x_iload hC d_Text_commonWith_77 rfl ?_
                        refine x_iconst hC d_Text_commonWith_79 (v := nI 1) (by decide) ?_
                        refine x_iadd hC d_Text_commonWith_80 (v := (nI (dg + 1))) (x_addN (by omega)) ?_
                        refine x_goto hC d_Text_commonWith_81 (tgt := 95) (by decide) ?_
                        obtain ⟨cm1, hcm1⟩ : ∃ c9 : Nat, c9 = dg + 1 := ⟨_, rfl⟩
                        rw [← hcm1]
                        rw [if_pos (by omega), if_pos (by omega)] at c_74
                        have hcm : cm1 = lcs s u (i + 1) j := by rw [hcm1, lcs_step s u (by omega), if_pos c_74, kd]
                        refine x_istore_n hC d_Text_commonWith_95 rfl (Nat.le_of_ble_eq_true rfl) (L1 := [some (.ref t), some (.ref o), some (.ref r), some (.int (nI (cm1))), some (.int (nI (i))), some (.int (nI (dg))), some (.int (nI (j))), some (.int (nI (g3 (j))))]) rfl ?_
                        refine x_aload_n hC d_Text_commonWith_96 rfl rfl ?_
                        refine x_iload hC d_Text_commonWith_97 rfl ?_
                        refine x_iload_n hC d_Text_commonWith_99 rfl rfl ?_
                        refine x_iast hC hr (j := j) ⟨rfl, by omega, by omega⟩ d_Text_commonWith_100 (g1 := fun b9 => nI (updN g3 (j) (cm1) b9)) (x_updN _ _ _) ?_
                        generalize eg3 : updN g3 (j) (cm1) = gw3
                        generalize e4 : xup Fh38 (r) (.inr (0, 17, fun b9 => .int (nI (gw3 b9)))) = F4
                        have ht : xTx F4 (t) (cap) (n) (s) := xTx_fr ht (fun a9 q1 q2 => by rw [← e4]; exact xup_ne (by omega))
                        have ho : xTx F4 (o) (capo) (m) (u) := xTx_fr ho (fun a9 q1 q2 => by rw [← e4]; exact xup_ne (by omega))
                        have hr : F4 (r) = some (.inr (0, 17, fun b9 => .int (nI (gw3 b9)))) := by rw [← e4]; exact xup_eq
                        have hag : ∀ a9 : Nat, (a9 < r ∨ r + 1 ≤ a9) → F4 a9 = F a9 := fun a9 q0 => by rw [← e4]; exact (xup_ne (by omega)).trans (hag a9 q0)
                        refine x_iload hC d_Text_commonWith_101 rfl ?_
                        refine x_istore hC d_Text_commonWith_103 (Nat.le_of_ble_eq_true rfl) (L1 := [some (.ref t), some (.ref o), some (.ref r), some (.int (nI (cm1))), some (.int (nI (i))), some (.int (nI (g3 (j)))), some (.int (nI (j))), some (.int (nI (g3 (j))))]) rfl ?_
                        refine x_iinc hC d_Text_commonWith_105 rfl (v := (nI (j + 1))) (x_incN 1) (Nat.le_of_ble_eq_true rfl) (L1 := [some (.ref t), some (.ref o), some (.ref r), some (.int (nI (cm1))), some (.int (nI (i))), some (.int (nI (g3 (j)))), some (.int (nI (j + 1))), some (.int (nI (g3 (j))))]) rfl ?_
                        refine x_goto hC d_Text_commonWith_108 (tgt := 38) (by decide) ?_
                        refine x_forget (L1 := [some (.ref t), some (.ref o), some (.ref r), some (.int (nI (cm1))), some (.int (nI (i))), some (.int (nI (g3 (j)))), some (.int (nI (j + 1))), none]) ⟨Or.inr rfl, ⟨Or.inr rfl, ⟨Or.inr rfl, ⟨Or.inr rfl, ⟨Or.inr rfl, ⟨Or.inr rfl, ⟨Or.inr rfl, ⟨Or.inl rfl, trivial⟩⟩⟩⟩⟩⟩⟩⟩ ?_
                        exact ih_38 F4 (j + 1) (gw3) (g3 (j)) (cm1) ht ho hr hag (by omega) (by rw [k2 j (by omega) (by omega)]; rfl) (Or.inl (by rw [hcm]; rfl)) (fun b hb => (Nat.lt_or_ge b j).elim (fun q => by rw [← eg3, updN_ne (by omega)]; exact k1 b q) (fun q => by rw [← eg3, show b = j by omega, updN_eq, hcm])) (fun b hb hb2 => by rw [← eg3, updN_ne (by omega)]; exact k2 b (by omega) hb2) (by omega)
              exact loop_38 (m + 1 - 1 + 1) Fh23 (1) (g2) (0) (cm0) ht ho hr hag (by omega) (by rw [show (1 : Nat) - 1 = 0 from rfl, lcs_0]) (Or.inr ⟨rfl, kc0⟩) (fun b hb => by rw [show b = 0 by omega, lcs_0, k0 0 (by omega), lcs_0]) (fun b _ hb => k0 b hb) (by omega)
        exact loop_23 (n - 0 + 1) Fh2 (0) (g0) (0) ht ho hr hag (by omega) (fun b hb9 => by rw [kz b (by omega), lcs_z]) ((lcs_z s u m).symm) (by omega)
      · skip
        refine x_aload_n hC d_Text_commonWith_8 rfl rfl ?_
        refine x_iload_n hC d_Text_commonWith_9 rfl rfl ?_
        refine x_iconst hC d_Text_commonWith_10 (v := nI 0) (by decide) ?_
        refine x_iast hC hr (j := b) ⟨rfl, by omega, by omega⟩ d_Text_commonWith_11 (g1 := fun b9 => nI (updN g0 (b) (0) b9)) (x_updN _ _ _) ?_
        generalize eg5 : updN g0 (b) (0) = gw5
        generalize e6 : xup Fh2 (r) (.inr (0, 17, fun b9 => .int (nI (gw5 b9)))) = F6
        have ht : xTx F6 (t) (cap) (n) (s) := xTx_fr ht (fun a9 q1 q2 => by rw [← e6]; exact xup_ne (by omega))
        have ho : xTx F6 (o) (capo) (m) (u) := xTx_fr ho (fun a9 q1 q2 => by rw [← e6]; exact xup_ne (by omega))
        have hr : F6 (r) = some (.inr (0, 17, fun b9 => .int (nI (gw5 b9)))) := by rw [← e6]; exact xup_eq
        have hag : ∀ a9 : Nat, (a9 < r ∨ r + 1 ≤ a9) → F6 a9 = F a9 := fun a9 q0 => by rw [← e6]; exact (xup_ne (by omega)).trans (hag a9 q0)
        refine x_iinc hC d_Text_commonWith_12 rfl (v := (nI (b + 1))) (x_incN 1) (Nat.le_of_ble_eq_true rfl) (L1 := [some (.ref t), some (.ref o), some (.ref r), some (.int (nI (b + 1))), none, none, none, none]) rfl ?_
        refine x_goto hC d_Text_commonWith_15 (tgt := 2) (by decide) ?_
        exact ih_2 F6 (b + 1) (gw5) ht ho hr hag (by omega) (fun q hq => (Nat.lt_or_ge q b).elim (fun e => by rw [← eg5, updN_ne (by omega)]; exact kz q e) (fun e => by rw [← eg5, show q = b by omega, updN_eq])) (by omega)
  exact loop_2 (17 - 0 + 1) F (0) (g) ht ho hr hag (by omega) (fun _ hq => absurd hq (by omega)) (by omega)

theorem d_Text_init_0 : decode prog_12_method_1_code 0 = .ok (.aload_n 0, 1) := by decide +kernel
theorem d_Text_init_1 : decode prog_12_method_1_code 1 = .ok (.invokespecial 3, 3) := by decide +kernel
theorem d_Text_init_4 : decode prog_12_method_1_code 4 = .ok (.aload_n 0, 1) := by decide +kernel
theorem d_Text_init_5 : decode prog_12_method_1_code 5 = .ok (.iload_n 1, 1) := by decide +kernel
theorem d_Text_init_6 : decode prog_12_method_1_code 6 = .ok (.iconst 0, 1) := by decide +kernel
theorem d_Text_init_7 : decode prog_12_method_1_code 7 = .ok (.invokestatic 9, 3) := by decide +kernel
theorem d_Text_init_10 : decode prog_12_method_1_code 10 = .ok (.newarray .char, 2) := by decide +kernel
theorem d_Text_init_12 : decode prog_12_method_1_code 12 = .ok (.putfield 15, 3) := by decide +kernel
theorem d_Text_init_15 : decode prog_12_method_1_code 15 = .ok (.return_, 1) := by decide +kernel
set_option maxHeartbeats 4000000 in
set_option maxRecDepth 20000 in
theorem c_Text_init16 {P : xP} {F : xF} {t : Nat} (h0 : F (t) = some (.inl (8, [.null, .int (nI 0)])))  : xM P xy_Text_init [.ref t, .int (nI 16)] F (t + 1) 1 16 (fun r9 F9 z9 => r9 = none ∧ z9 = t + 2 ∧ xTx F9 (t) (16) (0) ((fun _ => 0)) ∧ (∀ a9 : Nat, (a9 < t ∨ t + 2 ≤ a9) → F9 a9 = F a9)) := by
  refine xM_v rfl (Nat.le_of_ble_eq_true rfl) (L0 := [some (.ref t), some (.int (nI 16))]) rfl rfl fun Θ hC hin hret => ?_
  have hag : ∀ a9 : Nat, (a9 < t ∨ t + 2 ≤ a9) → F a9 = F a9 := fun a9 _ => rfl
  refine x_aload_n hC d_Text_init_0 rfl rfl ?_
  refine x_objInit hC ko_Text_3 rfl (by decide) (Nat.le_of_ble_eq_true rfl) d_Text_init_1 ?_
  refine x_aload_n hC d_Text_init_4 rfl rfl ?_
  refine x_iload_n hC d_Text_init_5 rfl rfl ?_
  refine x_iconst hC d_Text_init_6 (v := nI 0) (by decide) ?_
  refine x_mmaxN hC km_Text_9 (by omega) (by omega) rfl (by decide) (Nat.le_of_ble_eq_true rfl) (by decide) d_Text_init_7 (v := 16) rfl ?_
  refine x_newa hC (t := 1) rfl (by decide) (by decide) (x_in (x_of (xtb_1 (List.mem_of_getElem? (i := 131) (by decide +kernel)))) (by decide +kernel)) rfl (by omega) (by decide) (by decide) (f1 := fun b9 => .int (nI ((fun _ => 0) b9))) rfl d_Text_init_10 ?_
  generalize e1 : xup F (t + 1) (.inr (1, 16, fun b9 => .int (nI ((fun _ => 0) b9)))) = F1
  have h0 : F1 (t) = some (.inl (8, [.null, .int (nI 0)])) := by rw [← e1]; exact (xup_ne (by omega)).trans h0
  have h1 : F1 (t + 1) = some (.inr (1, 16, fun b9 => .int (nI ((fun _ => 0) b9)))) := by rw [← e1]; exact xup_eq
  have hag : ∀ a9 : Nat, (a9 < t ∨ t + 2 ≤ a9) → F1 a9 = F a9 := fun a9 q0 => by rw [← e1]; exact (xup_ne (by omega)).trans (hag a9 q0)
  refine x_putF hC hin kk_Text_15 h0 (Nat.le_of_ble_eq_true rfl) rfl rfl d_Text_init_12 (fs1 := [.ref (t + 1), .int (nI 0)]) rfl ?_
  generalize e2 : xup F1 (t) (.inl (8, [.ref (t + 1), .int (nI 0)])) = F2
  have h0 : F2 (t) = some (.inl (8, [.ref (t + 1), .int (nI 0)])) := by rw [← e2]; exact xup_eq
  have h1 : F2 (t + 1) = some (.inr (1, 16, fun b9 => .int (nI ((fun _ => 0) b9)))) := by rw [← e2]; exact (xup_ne (by omega)).trans h1
  have hag : ∀ a9 : Nat, (a9 < t ∨ t + 2 ≤ a9) → F2 a9 = F a9 := fun a9 q0 => by rw [← e2]; exact (xup_ne (by omega)).trans (hag a9 q0)
  exact hret _ _ _ _ _ _ d_Text_init_15 (by decide) (by decide) (⟨rfl, rfl, ⟨h0, ⟨by omega, by omega⟩, fun j hj => absurd hj (by omega), (fun _ => 0), h1, fun j hj => absurd hj (by omega)⟩, hag⟩)

set_option maxHeartbeats 4000000 in
set_option maxRecDepth 20000 in
theorem c_Text_init32 {P : xP} {F : xF} {t : Nat} (h0 : F (t) = some (.inl (8, [.null, .int (nI 0)])))  : xM P xy_Text_init [.ref t, .int (nI 32)] F (t + 1) 1 32 (fun r9 F9 z9 => r9 = none ∧ z9 = t + 2 ∧ xTx F9 (t) (32) (0) ((fun _ => 0)) ∧ (∀ a9 : Nat, (a9 < t ∨ t + 2 ≤ a9) → F9 a9 = F a9)) := by
  refine xM_v rfl (Nat.le_of_ble_eq_true rfl) (L0 := [some (.ref t), some (.int (nI 32))]) rfl rfl fun Θ hC hin hret => ?_
  have hag : ∀ a9 : Nat, (a9 < t ∨ t + 2 ≤ a9) → F a9 = F a9 := fun a9 _ => rfl
  refine x_aload_n hC d_Text_init_0 rfl rfl ?_
  refine x_objInit hC ko_Text_3 rfl (by decide) (Nat.le_of_ble_eq_true rfl) d_Text_init_1 ?_
  refine x_aload_n hC d_Text_init_4 rfl rfl ?_
  refine x_iload_n hC d_Text_init_5 rfl rfl ?_
  refine x_iconst hC d_Text_init_6 (v := nI 0) (by decide) ?_
  refine x_mmaxN hC km_Text_9 (by omega) (by omega) rfl (by decide) (Nat.le_of_ble_eq_true rfl) (by decide) d_Text_init_7 (v := 32) rfl ?_
  refine x_newa hC (t := 1) rfl (by decide) (by decide) (x_in (x_of (xtb_1 (List.mem_of_getElem? (i := 131) (by decide +kernel)))) (by decide +kernel)) rfl (by omega) (by decide) (by decide) (f1 := fun b9 => .int (nI ((fun _ => 0) b9))) rfl d_Text_init_10 ?_
  generalize e1 : xup F (t + 1) (.inr (1, 32, fun b9 => .int (nI ((fun _ => 0) b9)))) = F1
  have h0 : F1 (t) = some (.inl (8, [.null, .int (nI 0)])) := by rw [← e1]; exact (xup_ne (by omega)).trans h0
  have h1 : F1 (t + 1) = some (.inr (1, 32, fun b9 => .int (nI ((fun _ => 0) b9)))) := by rw [← e1]; exact xup_eq
  have hag : ∀ a9 : Nat, (a9 < t ∨ t + 2 ≤ a9) → F1 a9 = F a9 := fun a9 q0 => by rw [← e1]; exact (xup_ne (by omega)).trans (hag a9 q0)
  refine x_putF hC hin kk_Text_15 h0 (Nat.le_of_ble_eq_true rfl) rfl rfl d_Text_init_12 (fs1 := [.ref (t + 1), .int (nI 0)]) rfl ?_
  generalize e2 : xup F1 (t) (.inl (8, [.ref (t + 1), .int (nI 0)])) = F2
  have h0 : F2 (t) = some (.inl (8, [.ref (t + 1), .int (nI 0)])) := by rw [← e2]; exact xup_eq
  have h1 : F2 (t + 1) = some (.inr (1, 32, fun b9 => .int (nI ((fun _ => 0) b9)))) := by rw [← e2]; exact (xup_ne (by omega)).trans h1
  have hag : ∀ a9 : Nat, (a9 < t ∨ t + 2 ≤ a9) → F2 a9 = F a9 := fun a9 q0 => by rw [← e2]; exact (xup_ne (by omega)).trans (hag a9 q0)
  exact hret _ _ _ _ _ _ d_Text_init_15 (by decide) (by decide) (⟨rfl, rfl, ⟨h0, ⟨by omega, by omega⟩, fun j hj => absurd hj (by omega), (fun _ => 0), h1, fun j hj => absurd hj (by omega)⟩, hag⟩)

set_option maxHeartbeats 4000000 in
set_option maxRecDepth 20000 in
theorem c_Text_init60 {P : xP} {F : xF} {t : Nat} (h0 : F (t) = some (.inl (8, [.null, .int (nI 0)])))  : xM P xy_Text_init [.ref t, .int (nI 60)] F (t + 1) 1 60 (fun r9 F9 z9 => r9 = none ∧ z9 = t + 2 ∧ xTx F9 (t) (60) (0) ((fun _ => 0)) ∧ (∀ a9 : Nat, (a9 < t ∨ t + 2 ≤ a9) → F9 a9 = F a9)) := by
  refine xM_v rfl (Nat.le_of_ble_eq_true rfl) (L0 := [some (.ref t), some (.int (nI 60))]) rfl rfl fun Θ hC hin hret => ?_
  have hag : ∀ a9 : Nat, (a9 < t ∨ t + 2 ≤ a9) → F a9 = F a9 := fun a9 _ => rfl
  refine x_aload_n hC d_Text_init_0 rfl rfl ?_
  refine x_objInit hC ko_Text_3 rfl (by decide) (Nat.le_of_ble_eq_true rfl) d_Text_init_1 ?_
  refine x_aload_n hC d_Text_init_4 rfl rfl ?_
  refine x_iload_n hC d_Text_init_5 rfl rfl ?_
  refine x_iconst hC d_Text_init_6 (v := nI 0) (by decide) ?_
  refine x_mmaxN hC km_Text_9 (by omega) (by omega) rfl (by decide) (Nat.le_of_ble_eq_true rfl) (by decide) d_Text_init_7 (v := 60) rfl ?_
  refine x_newa hC (t := 1) rfl (by decide) (by decide) (x_in (x_of (xtb_1 (List.mem_of_getElem? (i := 131) (by decide +kernel)))) (by decide +kernel)) rfl (by omega) (by decide) (by decide) (f1 := fun b9 => .int (nI ((fun _ => 0) b9))) rfl d_Text_init_10 ?_
  generalize e1 : xup F (t + 1) (.inr (1, 60, fun b9 => .int (nI ((fun _ => 0) b9)))) = F1
  have h0 : F1 (t) = some (.inl (8, [.null, .int (nI 0)])) := by rw [← e1]; exact (xup_ne (by omega)).trans h0
  have h1 : F1 (t + 1) = some (.inr (1, 60, fun b9 => .int (nI ((fun _ => 0) b9)))) := by rw [← e1]; exact xup_eq
  have hag : ∀ a9 : Nat, (a9 < t ∨ t + 2 ≤ a9) → F1 a9 = F a9 := fun a9 q0 => by rw [← e1]; exact (xup_ne (by omega)).trans (hag a9 q0)
  refine x_putF hC hin kk_Text_15 h0 (Nat.le_of_ble_eq_true rfl) rfl rfl d_Text_init_12 (fs1 := [.ref (t + 1), .int (nI 0)]) rfl ?_
  generalize e2 : xup F1 (t) (.inl (8, [.ref (t + 1), .int (nI 0)])) = F2
  have h0 : F2 (t) = some (.inl (8, [.ref (t + 1), .int (nI 0)])) := by rw [← e2]; exact xup_eq
  have h1 : F2 (t + 1) = some (.inr (1, 60, fun b9 => .int (nI ((fun _ => 0) b9)))) := by rw [← e2]; exact (xup_ne (by omega)).trans h1
  have hag : ∀ a9 : Nat, (a9 < t ∨ t + 2 ≤ a9) → F2 a9 = F a9 := fun a9 q0 => by rw [← e2]; exact (xup_ne (by omega)).trans (hag a9 q0)
  exact hret _ _ _ _ _ _ d_Text_init_15 (by decide) (by decide) (⟨rfl, rfl, ⟨h0, ⟨by omega, by omega⟩, fun j hj => absurd hj (by omega), (fun _ => 0), h1, fun j hj => absurd hj (by omega)⟩, hag⟩)

