/-- a text at t: room for cap signs, n of them, s -/
def xTx (F : xF) (t cap n : Nat) (s : Nat → Nat) : Prop := F t = some (.inl (8, [.ref (t + 1), .int (nI n)])) ∧ F (t + 1) = some (.inr (1, cap, fun b => .int (nI (s b)))) ∧ n ≤ cap ∧ cap ≤ 1000 ∧ ∀ j, j < n → s j < 65536
theorem xTx_fr {F F1 : xF} {t cap n : Nat} {s : Nat → Nat} (h : xTx F t cap n s) (hf : ∀ a, t ≤ a → a < t + 2 → F1 a = F a) : xTx F1 t cap n s := ⟨(hf t (by omega) (by omega)).trans h.1, (hf (t + 1) (by omega) (by omega)).trans h.2.1, h.2.2⟩
theorem xTx_len {F : xF} {t cap n : Nat} {s : Nat → Nat} (h : xTx F t cap n s) : n ≤ cap ∧ cap ≤ 1000 := ⟨h.2.2.1, h.2.2.2.1⟩

theorem d_Text_has_0 : decode prog_12_method_2_code 0 = .ok (.iload_n 1, 1) := by decide +kernel
theorem d_Text_has_1 : decode prog_12_method_2_code 1 = .ok (.ifCond .lt 15, 3) := by decide +kernel
theorem d_Text_has_4 : decode prog_12_method_2_code 4 = .ok (.iload_n 1, 1) := by decide +kernel
theorem d_Text_has_5 : decode prog_12_method_2_code 5 = .ok (.aload_n 0, 1) := by decide +kernel
theorem d_Text_has_6 : decode prog_12_method_2_code 6 = .ok (.getfield 21, 3) := by decide +kernel
theorem d_Text_has_9 : decode prog_12_method_2_code 9 = .ok (.if_icmp .ge 7, 3) := by decide +kernel
theorem d_Text_has_12 : decode prog_12_method_2_code 12 = .ok (.iconst 1, 1) := by decide +kernel
theorem d_Text_has_13 : decode prog_12_method_2_code 13 = .ok (.goto 4, 3) := by decide +kernel
theorem d_Text_has_16 : decode prog_12_method_2_code 16 = .ok (.iconst 0, 1) := by decide +kernel
theorem d_Text_has_17 : decode prog_12_method_2_code 17 = .ok (.ireturn, 1) := by decide +kernel
set_option maxHeartbeats 4000000 in
set_option maxRecDepth 20000 in
theorem c_Text_hasN {P : xP} {F : xF} {z : Nat} {t : Nat} {cap : Nat} {n : Nat} {s : Nat → Nat} {i : Nat} (ht : xTx F (t) (cap) (n) (s)) (hi : i < 2 ^ 31) : xM P xy_Text_has [.ref t, .int (nI (i))] F z 0 0 (fun r9 F9 z9 => r9 = some (.int (xb (i < n))) ∧ F9 = F ∧ z9 = z) := by
  refine xM_i .boolean rfl (Nat.le_of_ble_eq_true rfl) (L0 := [some (.ref t), some (.int (nI (i)))]) rfl rfl fun Θ hC hret => ?_
  obtain ⟨h0ht, h1ht, hcht, hkht, hsht⟩ := ht
  refine x_iload_n hC d_Text_has_0 rfl rfl ?_
  refine x_ifN_lt hC d_Text_has_1 (tgt := 16) (by decide) (by omega) (fun c_1 => ?_) (fun c_1 => ?_)
  · skip
    exact c_1.elim
  · skip
    refine x_iload_n hC d_Text_has_4 rfl rfl ?_
    refine x_aload_n hC d_Text_has_5 rfl rfl ?_
    refine x_getf hC kf_Text_21 h0ht rfl d_Text_has_6 ?_
    refine x_icmpN_ge hC d_Text_has_9 (tgt := 16) (by decide) (by omega) (by omega) (fun c_9 => ?_) (fun c_9 => ?_)
    · skip
      refine x_iconst hC d_Text_has_16 (v := nI 0) (by decide) ?_
      exact hret _ _ _ _ _ _ _ d_Text_has_17 (by decide) (by decide) rfl (⟨congrArg (fun q => some (Value.int q)) (xb_f0 (by omega)), rfl, rfl⟩)
    · skip
      refine x_iconst hC d_Text_has_12 (v := nI 1) (by decide) ?_
      refine x_goto hC d_Text_has_13 (tgt := 17) (by decide) ?_
      exact hret _ _ _ _ _ _ _ d_Text_has_17 (by decide) (by decide) rfl (⟨congrArg (fun q => some (Value.int q)) (xb_t1 (by omega)), rfl, rfl⟩)

set_option maxHeartbeats 4000000 in
set_option maxRecDepth 20000 in
theorem c_Text_has {P : xP} {F : xF} {z : Nat} {t : Nat} {cap : Nat} {n : Nat} {s : Nat → Nat} {i : Int32} (ht : xTx F (t) (cap) (n) (s))  : xM P xy_Text_has [.ref t, .int i] F z 0 0 (fun r9 F9 z9 => r9 = some (.int (xb (0 ≤ i ∧ i < nI n))) ∧ F9 = F ∧ z9 = z) := by
  refine xM_i .boolean rfl (Nat.le_of_ble_eq_true rfl) (L0 := [some (.ref t), some (.int i)]) rfl rfl fun Θ hC hret => ?_
  obtain ⟨h0ht, h1ht, hcht, hkht, hsht⟩ := ht
  refine x_iload_n hC d_Text_has_0 rfl rfl ?_
  refine x_if_lt hC d_Text_has_1 (tgt := 16) (by decide) (fun c_1 => ?_) (fun c_1 => ?_)
  · skip
    refine x_iconst hC d_Text_has_16 (v := nI 0) (by decide) ?_
    exact hret _ _ _ _ _ _ _ d_Text_has_17 (by decide) (by decide) rfl (⟨congrArg (fun q => some (Value.int q)) (xb_f0 (fun h9 => k2_nlt h9.1 c_1)), rfl, rfl⟩)
  · skip
    refine x_iload_n hC d_Text_has_4 rfl rfl ?_
    refine x_aload_n hC d_Text_has_5 rfl rfl ?_
    refine x_getf hC kf_Text_21 h0ht rfl d_Text_has_6 ?_
    refine x_icmp_ge hC d_Text_has_9 (tgt := 16) (by decide) (fun c_9 => ?_) (fun c_9 => ?_)
    · skip
      refine x_iconst hC d_Text_has_16 (v := nI 0) (by decide) ?_
      exact hret _ _ _ _ _ _ _ d_Text_has_17 (by decide) (by decide) rfl (⟨congrArg (fun q => some (Value.int q)) (xb_f0 (fun h9 => k2_nle h9.2 c_9)), rfl, rfl⟩)
    · skip
      refine x_iconst hC d_Text_has_12 (v := nI 1) (by decide) ?_
      refine x_goto hC d_Text_has_13 (tgt := 17) (by decide) ?_
      exact hret _ _ _ _ _ _ _ d_Text_has_17 (by decide) (by decide) rfl (⟨congrArg (fun q => some (Value.int q)) (xb_t1 ⟨k2_le c_1, k2_lt c_9⟩), rfl, rfl⟩)

theorem d_Text_at_0 : decode prog_12_method_3_code 0 = .ok (.aload_n 0, 1) := by decide +kernel
theorem d_Text_at_1 : decode prog_12_method_3_code 1 = .ok (.iload_n 1, 1) := by decide +kernel
theorem d_Text_at_2 : decode prog_12_method_3_code 2 = .ok (.invokevirtual 25, 3) := by decide +kernel
theorem d_Text_at_5 : decode prog_12_method_3_code 5 = .ok (.ifCond .eq 12, 3) := by decide +kernel
theorem d_Text_at_8 : decode prog_12_method_3_code 8 = .ok (.aload_n 0, 1) := by decide +kernel
theorem d_Text_at_9 : decode prog_12_method_3_code 9 = .ok (.getfield 15, 3) := by decide +kernel
theorem d_Text_at_12 : decode prog_12_method_3_code 12 = .ok (.iload_n 1, 1) := by decide +kernel
theorem d_Text_at_13 : decode prog_12_method_3_code 13 = .ok (.caload, 1) := by decide +kernel
theorem d_Text_at_14 : decode prog_12_method_3_code 14 = .ok (.goto 4, 3) := by decide +kernel
theorem d_Text_at_17 : decode prog_12_method_3_code 17 = .ok (.iconst 0, 1) := by decide +kernel
theorem d_Text_at_18 : decode prog_12_method_3_code 18 = .ok (.ireturn, 1) := by decide +kernel
set_option maxHeartbeats 4000000 in
set_option maxRecDepth 20000 in
theorem c_Text_at {P : xP} {F : xF} {z : Nat} {t : Nat} {cap : Nat} {n : Nat} {s : Nat → Nat} {i : Nat} (ht : xTx F (t) (cap) (n) (s)) (hi : i < 2 ^ 31) : xM P xy_Text_at [.ref t, .int (nI (i))] F z 0 0 (fun r9 F9 z9 => r9 = some (.int (nI (if i < n then s i else 0))) ∧ F9 = F ∧ z9 = z) := by
  refine xM_i .char rfl (Nat.le_of_ble_eq_true rfl) (L0 := [some (.ref t), some (.int (nI (i)))]) rfl rfl fun Θ hC hret => ?_
  have hlen := xTx_len ht
  refine x_aload_n hC d_Text_at_0 rfl rfl ?_
  refine x_iload_n hC d_Text_at_1 rfl rfl ?_
  refine x_callV hC kv_Text_25 (c_Text_hasN (ht := ht) (hi := by omega)) ht.1 rfl rfl (by decide) rfl rfl rfl (Nat.le_of_ble_eq_true rfl) (by decide) d_Text_at_2 (fun r9 F9 z9 hp9 => ?_)
  obtain ⟨rfl, rfl, rfl⟩ := hp9
  refine x_ifB_eq hC d_Text_at_5 (tgt := 17) (by decide) (fun c_5 => ?_) (fun c_5 => ?_)
  · skip
    refine x_iconst hC d_Text_at_17 (v := nI 0) (by decide) ?_
    exact hret _ _ _ _ _ _ _ d_Text_at_18 (by decide) (by decide) (x_char _ (by first | exact ht.2.2.2.2 _ (by omega) | decide)) (⟨congrArg (fun q => some (Value.int (nI q))) (if_neg (by omega)).symm, rfl, rfl⟩)
  · skip
    refine x_aload_n hC d_Text_at_8 rfl rfl ?_
    refine x_getf hC kf_Text_15 ht.1 rfl d_Text_at_9 ?_
    refine x_iload_n hC d_Text_at_12 rfl rfl ?_
    refine x_cald hC ht.2.1 (j := i) ⟨rfl, by omega, by omega⟩ (x := nI (s (i))) rfl d_Text_at_13 ?_
    refine x_goto hC d_Text_at_14 (tgt := 18) (by decide) ?_
    exact hret _ _ _ _ _ _ _ d_Text_at_18 (by decide) (by decide) (x_char _ (by first | exact ht.2.2.2.2 _ (by omega) | decide)) (⟨congrArg (fun q => some (Value.int (nI q))) (if_pos (by omega)).symm, rfl, rfl⟩)

theorem d_Text_clear_0 : decode prog_12_method_4_code 0 = .ok (.aload_n 0, 1) := by decide +kernel
theorem d_Text_clear_1 : decode prog_12_method_4_code 1 = .ok (.iconst 0, 1) := by decide +kernel
theorem d_Text_clear_2 : decode prog_12_method_4_code 2 = .ok (.putfield 21, 3) := by decide +kernel
theorem d_Text_clear_5 : decode prog_12_method_4_code 5 = .ok (.return_, 1) := by decide +kernel
set_option maxHeartbeats 4000000 in
set_option maxRecDepth 20000 in
theorem c_Text_clear {P : xP} {F : xF} {z : Nat} {t : Nat} {cap : Nat} {n : Nat} {s : Nat → Nat} (ht : xTx F (t) (cap) (n) (s))  : xM P xy_Text_clear [.ref t] F z 0 0 (fun r9 F9 z9 => r9 = none ∧ z9 = z ∧ xTx F9 (t) (cap) (0) (s) ∧ (∀ a9 : Nat, (a9 < t ∨ t + 2 ≤ a9) → F9 a9 = F a9)) := by
  refine xM_v rfl (Nat.le_of_ble_eq_true rfl) (L0 := [some (.ref t)]) rfl rfl fun Θ hC hin hret => ?_
  have hag : ∀ a9 : Nat, (a9 < t ∨ t + 2 ≤ a9) → F a9 = F a9 := fun a9 _ => rfl
  obtain ⟨h0ht, h1ht, hcht, hkht, hsht⟩ := ht
  refine x_aload_n hC d_Text_clear_0 rfl rfl ?_
  refine x_iconst hC d_Text_clear_1 (v := nI 0) (by decide) ?_
  refine x_putf hC kf_Text_21 h0ht (Nat.le_of_ble_eq_true rfl) rfl rfl d_Text_clear_2 (fs1 := [.ref (t + 1), .int (nI 0)]) rfl ?_
  generalize e1 : xup F (t) (.inl (8, [.ref (t + 1), .int (nI 0)])) = F1
  have h0ht : F1 (t) = some (.inl (8, [.ref (t + 1), .int (nI 0)])) := by rw [← e1]; exact xup_eq
  have h1ht : F1 (t + 1) = some (.inr (1, cap, fun b => .int (nI (s b)))) := by rw [← e1]; exact (xup_ne (by omega)).trans h1ht
  have hag : ∀ a9 : Nat, (a9 < t ∨ t + 2 ≤ a9) → F1 a9 = F a9 := fun a9 q0 => by rw [← e1]; exact (xup_ne (by omega)).trans (hag a9 q0)
  exact hret _ _ _ _ _ _ d_Text_clear_5 (by decide) (by decide) (⟨rfl, rfl, ⟨h0ht, h1ht, by omega, hkht, fun j hj => absurd hj (by omega)⟩, hag⟩)

theorem d_Text_add_0 : decode prog_12_method_5_code 0 = .ok (.aload_n 0, 1) := by decide +kernel
theorem d_Text_add_1 : decode prog_12_method_5_code 1 = .ok (.getfield 21, 3) := by decide +kernel
theorem d_Text_add_4 : decode prog_12_method_5_code 4 = .ok (.aload_n 0, 1) := by decide +kernel
theorem d_Text_add_5 : decode prog_12_method_5_code 5 = .ok (.getfield 15, 3) := by decide +kernel
theorem d_Text_add_8 : decode prog_12_method_5_code 8 = .ok (.arraylength, 1) := by decide +kernel
theorem d_Text_add_9 : decode prog_12_method_5_code 9 = .ok (.if_icmp .lt 5, 3) := by decide +kernel
theorem d_Text_add_12 : decode prog_12_method_5_code 12 = .ok (.iconst 0, 1) := by decide +kernel
theorem d_Text_add_13 : decode prog_12_method_5_code 13 = .ok (.ireturn, 1) := by decide +kernel
theorem d_Text_add_14 : decode prog_12_method_5_code 14 = .ok (.aload_n 0, 1) := by decide +kernel
theorem d_Text_add_15 : decode prog_12_method_5_code 15 = .ok (.getfield 15, 3) := by decide +kernel
theorem d_Text_add_18 : decode prog_12_method_5_code 18 = .ok (.aload_n 0, 1) := by decide +kernel
theorem d_Text_add_19 : decode prog_12_method_5_code 19 = .ok (.getfield 21, 3) := by decide +kernel
theorem d_Text_add_22 : decode prog_12_method_5_code 22 = .ok (.iload_n 1, 1) := by decide +kernel
theorem d_Text_add_23 : decode prog_12_method_5_code 23 = .ok (.castore, 1) := by decide +kernel
theorem d_Text_add_24 : decode prog_12_method_5_code 24 = .ok (.aload_n 0, 1) := by decide +kernel
theorem d_Text_add_25 : decode prog_12_method_5_code 25 = .ok (.dup, 1) := by decide +kernel
theorem d_Text_add_26 : decode prog_12_method_5_code 26 = .ok (.getfield 21, 3) := by decide +kernel
theorem d_Text_add_29 : decode prog_12_method_5_code 29 = .ok (.iconst 1, 1) := by decide +kernel
theorem d_Text_add_30 : decode prog_12_method_5_code 30 = .ok (.iadd, 1) := by decide +kernel
theorem d_Text_add_31 : decode prog_12_method_5_code 31 = .ok (.putfield 21, 3) := by decide +kernel
theorem d_Text_add_34 : decode prog_12_method_5_code 34 = .ok (.iconst 1, 1) := by decide +kernel
theorem d_Text_add_35 : decode prog_12_method_5_code 35 = .ok (.ireturn, 1) := by decide +kernel
set_option maxHeartbeats 4000000 in
set_option maxRecDepth 20000 in
theorem c_Text_add1 {P : xP} {F : xF} {z : Nat} {t : Nat} {cap : Nat} {n : Nat} {s : Nat → Nat} {c : Nat} (ht : xTx F (t) (cap) (n) (s)) (hlt : n < cap) (hc0 : c < 65536) : xM P xy_Text_add [.ref t, .int (nI (c))] F z 0 0 (fun r9 F9 z9 => r9 = some (.int (nI 1)) ∧ z9 = z ∧ xTx F9 (t) (cap) (n + 1) (updN s n c) ∧ (∀ a9 : Nat, (a9 < t ∨ t + 2 ≤ a9) → F9 a9 = F a9)) := by
  refine xM_i .boolean rfl (Nat.le_of_ble_eq_true rfl) (L0 := [some (.ref t), some (.int (nI (c)))]) rfl rfl fun Θ hC hret => ?_
  have hag : ∀ a9 : Nat, (a9 < t ∨ t + 2 ≤ a9) → F a9 = F a9 := fun a9 _ => rfl
  obtain ⟨h0ht, h1ht, hcht, hkht, hsht⟩ := ht
  refine x_aload_n hC d_Text_add_0 rfl rfl ?_
  refine x_getf hC kf_Text_21 h0ht rfl d_Text_add_1 ?_
  refine x_aload_n hC d_Text_add_4 rfl rfl ?_
  refine x_getf hC kf_Text_15 h0ht rfl d_Text_add_5 ?_
  refine x_alen hC h1ht (by decide) rfl d_Text_add_8 ?_
  refine x_icmpN_lt hC d_Text_add_9 (tgt := 14) (by decide) (by omega) (by omega) (fun c_9 => ?_) (fun c_9 => ?_)
  · skip
    refine x_aload_n hC d_Text_add_14 rfl rfl ?_
    refine x_getf hC kf_Text_15 h0ht rfl d_Text_add_15 ?_
    refine x_aload_n hC d_Text_add_18 rfl rfl ?_
    refine x_getf hC kf_Text_21 h0ht rfl d_Text_add_19 ?_
    refine x_iload_n hC d_Text_add_22 rfl rfl ?_
    refine x_cast hC h1ht (j := n) ⟨rfl, by omega, by omega⟩ (x_char _ (by omega)) d_Text_add_23 (g1 := fun b => nI (updN s (n) (c) b)) (x_updN _ _ _) ?_
    generalize eg1 : updN s (n) (c) = g1
    generalize e2 : xup F (t + 1) (.inr (1, cap, fun b => .int (nI (g1 b)))) = F2
    have h0ht : F2 (t) = some (.inl (8, [.ref (t + 1), .int (nI (n))])) := by rw [← e2]; exact (xup_ne (by omega)).trans h0ht
    have h1ht : F2 (t + 1) = some (.inr (1, cap, fun b => .int (nI (g1 b)))) := by rw [← e2]; exact xup_eq
    have hag : ∀ a9 : Nat, (a9 < t ∨ t + 2 ≤ a9) → F2 a9 = F a9 := fun a9 q0 => by rw [← e2]; exact (xup_ne (by omega)).trans (hag a9 q0)
    refine x_aload_n hC d_Text_add_24 rfl rfl ?_
    refine x_dup hC d_Text_add_25 rfl ?_
    refine x_getf hC kf_Text_21 h0ht rfl d_Text_add_26 ?_
    refine x_iconst hC d_Text_add_29 (v := nI 1) (by decide) ?_
    refine x_iadd hC d_Text_add_30 (v := (nI (n + 1))) (x_addN (by omega)) ?_
    refine x_putf hC kf_Text_21 h0ht (Nat.le_of_ble_eq_true rfl) rfl rfl d_Text_add_31 (fs1 := [.ref (t + 1), .int (nI (n + 1))]) rfl ?_
    generalize e3 : xup F2 (t) (.inl (8, [.ref (t + 1), .int (nI (n + 1))])) = F3
    have h0ht : F3 (t) = some (.inl (8, [.ref (t + 1), .int (nI (n + 1))])) := by rw [← e3]; exact xup_eq
    have h1ht : F3 (t + 1) = some (.inr (1, cap, fun b => .int (nI (g1 b)))) := by rw [← e3]; exact (xup_ne (by omega)).trans h1ht
    have hag : ∀ a9 : Nat, (a9 < t ∨ t + 2 ≤ a9) → F3 a9 = F a9 := fun a9 q0 => by rw [← e3]; exact (xup_ne (by omega)).trans (hag a9 q0)
    refine x_iconst hC d_Text_add_34 (v := nI 1) (by decide) ?_
    exact hret _ _ _ _ _ _ _ d_Text_add_35 (by decide) (by decide) rfl (⟨rfl, rfl, ⟨h0ht, by rw [← eg1] at h1ht; exact h1ht, by omega, hkht, (fun j hj => (Nat.lt_or_ge j n).elim (fun q => by rw [updN_ne (by omega)]; exact hsht j q) (fun q => by rw [show j = n by omega, updN_eq]; exact hc0))⟩, hag⟩)
  · skip
    exact absurd c_9 (by omega)

set_option maxHeartbeats 4000000 in
set_option maxRecDepth 20000 in
theorem c_Text_add {P : xP} {F : xF} {z : Nat} {t : Nat} {cap : Nat} {n : Nat} {s : Nat → Nat} {c : Nat} (ht : xTx F (t) (cap) (n) (s)) (hc0 : c < 65536) : xM P xy_Text_add [.ref t, .int (nI (c))] F z 0 0 (fun r9 F9 z9 => ∃ n1 : Nat, ∃ s1 : Nat → Nat, r9 = some (.int (xb (n < cap))) ∧ z9 = z ∧ xTx F9 (t) (cap) (n1) (s1) ∧ ((n < cap → n1 = n + 1 ∧ s1 = updN s n c) ∧ (¬ n < cap → n1 = n ∧ s1 = s)) ∧ (∀ a9 : Nat, (a9 < t ∨ t + 2 ≤ a9) → F9 a9 = F a9)) := by
  refine xM_i .boolean rfl (Nat.le_of_ble_eq_true rfl) (L0 := [some (.ref t), some (.int (nI (c)))]) rfl rfl fun Θ hC hret => ?_
  have hag : ∀ a9 : Nat, (a9 < t ∨ t + 2 ≤ a9) → F a9 = F a9 := fun a9 _ => rfl
  obtain ⟨h0ht, h1ht, hcht, hkht, hsht⟩ := ht
  refine x_aload_n hC d_Text_add_0 rfl rfl ?_
  refine x_getf hC kf_Text_21 h0ht rfl d_Text_add_1 ?_
  refine x_aload_n hC d_Text_add_4 rfl rfl ?_
  refine x_getf hC kf_Text_15 h0ht rfl d_Text_add_5 ?_
  refine x_alen hC h1ht (by decide) rfl d_Text_add_8 ?_
  refine x_icmpN_lt hC d_Text_add_9 (tgt := 14) (by decide) (by omega) (by omega) (fun c_9 => ?_) (fun c_9 => ?_)
  · skip
    refine x_aload_n hC d_Text_add_14 rfl rfl ?_
    refine x_getf hC kf_Text_15 h0ht rfl d_Text_add_15 ?_
    refine x_aload_n hC d_Text_add_18 rfl rfl ?_
    refine x_getf hC kf_Text_21 h0ht rfl d_Text_add_19 ?_
    refine x_iload_n hC d_Text_add_22 rfl rfl ?_
    refine x_cast hC h1ht (j := n) ⟨rfl, by omega, by omega⟩ (x_char _ (by omega)) d_Text_add_23 (g1 := fun b => nI (updN s (n) (c) b)) (x_updN _ _ _) ?_
    generalize eg1 : updN s (n) (c) = g1
    generalize e2 : xup F (t + 1) (.inr (1, cap, fun b => .int (nI (g1 b)))) = F2
    have h0ht : F2 (t) = some (.inl (8, [.ref (t + 1), .int (nI (n))])) := by rw [← e2]; exact (xup_ne (by omega)).trans h0ht
    have h1ht : F2 (t + 1) = some (.inr (1, cap, fun b => .int (nI (g1 b)))) := by rw [← e2]; exact xup_eq
    have hag : ∀ a9 : Nat, (a9 < t ∨ t + 2 ≤ a9) → F2 a9 = F a9 := fun a9 q0 => by rw [← e2]; exact (xup_ne (by omega)).trans (hag a9 q0)
    refine x_aload_n hC d_Text_add_24 rfl rfl ?_
    refine x_dup hC d_Text_add_25 rfl ?_
    refine x_getf hC kf_Text_21 h0ht rfl d_Text_add_26 ?_
    refine x_iconst hC d_Text_add_29 (v := nI 1) (by decide) ?_
    refine x_iadd hC d_Text_add_30 (v := (nI (n + 1))) (x_addN (by omega)) ?_
    refine x_putf hC kf_Text_21 h0ht (Nat.le_of_ble_eq_true rfl) rfl rfl d_Text_add_31 (fs1 := [.ref (t + 1), .int (nI (n + 1))]) rfl ?_
    generalize e3 : xup F2 (t) (.inl (8, [.ref (t + 1), .int (nI (n + 1))])) = F3
    have h0ht : F3 (t) = some (.inl (8, [.ref (t + 1), .int (nI (n + 1))])) := by rw [← e3]; exact xup_eq
    have h1ht : F3 (t + 1) = some (.inr (1, cap, fun b => .int (nI (g1 b)))) := by rw [← e3]; exact (xup_ne (by omega)).trans h1ht
    have hag : ∀ a9 : Nat, (a9 < t ∨ t + 2 ≤ a9) → F3 a9 = F a9 := fun a9 q0 => by rw [← e3]; exact (xup_ne (by omega)).trans (hag a9 q0)
    refine x_iconst hC d_Text_add_34 (v := nI 1) (by decide) ?_
    exact hret _ _ _ _ _ _ _ d_Text_add_35 (by decide) (by decide) rfl (⟨n + 1, updN s n c, congrArg (fun q => some (Value.int q)) (xb_t1 (by omega)), rfl, ⟨h0ht, by rw [← eg1] at h1ht; exact h1ht, by omega, hkht, (fun j hj => (Nat.lt_or_ge j n).elim (fun q => by rw [updN_ne (by omega)]; exact hsht j q) (fun q => by rw [show j = n by omega, updN_eq]; exact hc0))⟩, ⟨fun _ => ⟨rfl, rfl⟩, fun q => absurd c_9 q⟩, hag⟩)
  · skip
    refine x_iconst hC d_Text_add_12 (v := nI 0) (by decide) ?_
    exact hret _ _ _ _ _ _ _ d_Text_add_13 (by decide) (by decide) rfl (⟨n, s, congrArg (fun q => some (Value.int q)) (xb_f0 (by omega)), rfl, ⟨h0ht, h1ht, hcht, hkht, hsht⟩, ⟨fun q => absurd q (by omega), fun _ => ⟨rfl, rfl⟩⟩, hag⟩)

