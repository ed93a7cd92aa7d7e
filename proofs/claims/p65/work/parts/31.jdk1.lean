/-! the JDK's texts, in Latin letters: what its statics hold; the machine's own methods, by contract -/
def xJd (P : xP) (fo : Nat) : Prop := (∀ U, P.2.2.2.2 U → va_Z "java/lang/String" "COMPACT_STRINGS" "Z" (.int (nI 1)) (xA0 P) U P.2.2.1) ∧ (∀ U, P.2.2.2.2 U → va_Z "jdk/internal/util/Preconditions" "SIOOBE_FORMATTER" "Ljava/util/function/BiFunction;" (fvS fo) (xA0 P) U P.2.2.1)
theorem xt_nb {m : Nat} (h : m ≤ 100000) : m * componentBytes (xty 2) ≤ 536870912 := by
  have e : componentBytes (xty 2) = 1 := by decide
  rw [e]
  omega
theorem xt_sub {a b : Nat} (ha : a < 2 ^ 30) (hb : b < 2 ^ 30) : (nI a - nI b).toInt = (a : Int) - (b : Int) := by
  have h1 : (nI a).toInt = (a : Int) := nI_toInt (by omega)
  have h2 : (nI b).toInt = (b : Int) := nI_toInt (by omega)
  rw [Int32.toInt_sub, h1, h2, Int.bmod_eq_of_le (by omega) (by omega)]
theorem xt_sub_le {a b : Nat} (ha : a < 2 ^ 30) (hb : b < 2 ^ 30) : nI a - nI b ≤ 0 ↔ a ≤ b := by
  rw [Int32.le_iff_toInt_le, xt_sub ha hb]
  show (a : Int) - b ≤ 0 ↔ _
  omega
def ncap (K m : Nat) : Nat := K + (if m - K < K + 2 then K + 2 else m - K)
theorem ncap_b {K m : Nat} (h : K < m) : m ≤ ncap K m ∧ 2 * K + 2 ≤ ncap K m ∧ (ncap K m ≤ 2 * K + 2 ∨ ncap K m ≤ m) := by
  unfold ncap
  split <;> omega
theorem d_AbstractStringBuilder_isLatin1_0 : decode prog_16_method_68_code 0 = .ok (.getstatic 18, 3) := by decide +kernel
theorem d_AbstractStringBuilder_isLatin1_3 : decode prog_16_method_68_code 3 = .ok (.ifCond .eq 14, 3) := by decide +kernel
theorem d_AbstractStringBuilder_isLatin1_6 : decode prog_16_method_68_code 6 = .ok (.aload_n 0, 1) := by decide +kernel
theorem d_AbstractStringBuilder_isLatin1_7 : decode prog_16_method_68_code 7 = .ok (.getfield 22, 3) := by decide +kernel
theorem d_AbstractStringBuilder_isLatin1_10 : decode prog_16_method_68_code 10 = .ok (.ifCond .ne 7, 3) := by decide +kernel
theorem d_AbstractStringBuilder_isLatin1_13 : decode prog_16_method_68_code 13 = .ok (.iconst 1, 1) := by decide +kernel
theorem d_AbstractStringBuilder_isLatin1_14 : decode prog_16_method_68_code 14 = .ok (.goto 4, 3) := by decide +kernel
theorem d_AbstractStringBuilder_isLatin1_17 : decode prog_16_method_68_code 17 = .ok (.iconst 0, 1) := by decide +kernel
theorem d_AbstractStringBuilder_isLatin1_18 : decode prog_16_method_68_code 18 = .ok (.ireturn, 1) := by decide +kernel
set_option maxHeartbeats 4000000 in
set_option maxRecDepth 20000 in
theorem c_AbstractStringBuilder_isLatin1 {P : xP} {F : xF} {z : Nat} {b : Nat} {v : Nat} {c : Nat} {fo : Nat} (hb : F (b) = some (.inl (10, [.ref v, .int (nI 0), .int (nI 0), .int (nI (c))]))) (hJ : xJd P fo) : xM P xy_AbstractStringBuilder_isLatin1 [.ref b] F (z) 0 0 (fun r9 F9 z9 => r9 = some (.int (nI 1)) ∧ F9 = F ∧ z9 = z) := by
  refine xM_i .boolean (by decide +kernel) (Nat.le_of_ble_eq_true rfl) (L0 := [some (.ref b)]) rfl rfl fun Θ hC hret => ?_
  refine x_gets hC (v := .int (nI 1)) hJ.1 (x_in (x_of (xtb_6 (List.mem_of_getElem? (i := 142) (by decide +kernel)))) (by decide +kernel)) d_AbstractStringBuilder_isLatin1_0 ?_
  refine x_ifN_eq hC d_AbstractStringBuilder_isLatin1_3 (tgt := 17) (by decide) (by omega) (fun c_3 => ?_) (fun c_3 => ?_)
  · skip
    exact absurd c_3 (by omega)
  · skip
    refine x_aload_n hC d_AbstractStringBuilder_isLatin1_6 rfl rfl ?_
    refine x_getf hC kf_AbstractStringBuilder_22 hb rfl d_AbstractStringBuilder_isLatin1_7 ?_
    refine x_ifN_ne hC d_AbstractStringBuilder_isLatin1_10 (tgt := 17) (by decide) (by omega) (fun c_10 => ?_) (fun c_10 => ?_)
    · skip
      exact absurd c_10 (by omega)
    · skip
      refine x_iconst hC d_AbstractStringBuilder_isLatin1_13 (v := nI 1) (by decide) ?_
      refine x_goto hC d_AbstractStringBuilder_isLatin1_14 (tgt := 18) (by decide) ?_
      exact hret _ _ _ _ _ _ _ d_AbstractStringBuilder_isLatin1_18 (by decide) (by decide) rfl (⟨rfl, rfl, rfl⟩)

theorem d_AbstractStringBuilder_getValue_0 : decode prog_16_method_64_code 0 = .ok (.aload_n 0, 1) := by decide +kernel
theorem d_AbstractStringBuilder_getValue_1 : decode prog_16_method_64_code 1 = .ok (.getfield 15, 3) := by decide +kernel
theorem d_AbstractStringBuilder_getValue_4 : decode prog_16_method_64_code 4 = .ok (.areturn, 1) := by decide +kernel
set_option maxHeartbeats 4000000 in
set_option maxRecDepth 20000 in
theorem c_AbstractStringBuilder_getValue {P : xP} {F : xF} {z : Nat} {b : Nat} {v : Nat} {c : Nat} (hb : F (b) = some (.inl (10, [.ref v, .int (nI 0), .int (nI 0), .int (nI (c))])))  : xM P xy_AbstractStringBuilder_getValue [.ref b] F (z) 0 0 (fun r9 F9 z9 => r9 = some (.ref v) ∧ F9 = F ∧ z9 = z) := by
  refine xM_a (by decide +kernel) (Nat.le_of_ble_eq_true rfl) (L0 := [some (.ref b)]) rfl rfl (by simp) fun Θ hC hret => ?_
  refine x_aload_n hC d_AbstractStringBuilder_getValue_0 rfl rfl ?_
  refine x_getf hC kf_AbstractStringBuilder_15 hb rfl d_AbstractStringBuilder_getValue_1 ?_
  exact hret _ _ _ _ _ _ _ d_AbstractStringBuilder_getValue_4 (by decide) (by decide) (Or.inr ⟨_, rfl⟩) (⟨rfl, rfl, rfl⟩)

theorem d_AbstractStringBuilder_length_0 : decode prog_16_method_6_code 0 = .ok (.aload_n 0, 1) := by decide +kernel
theorem d_AbstractStringBuilder_length_1 : decode prog_16_method_6_code 1 = .ok (.getfield 79, 3) := by decide +kernel
theorem d_AbstractStringBuilder_length_4 : decode prog_16_method_6_code 4 = .ok (.ireturn, 1) := by decide +kernel
set_option maxHeartbeats 4000000 in
set_option maxRecDepth 20000 in
theorem c_AbstractStringBuilder_length {P : xP} {F : xF} {z : Nat} {b : Nat} {v : Nat} {c : Nat} (hb : F (b) = some (.inl (10, [.ref v, .int (nI 0), .int (nI 0), .int (nI (c))])))  : xM P xy_AbstractStringBuilder_length [.ref b] F (z) 0 0 (fun r9 F9 z9 => r9 = some (.int (nI (c))) ∧ F9 = F ∧ z9 = z) := by
  refine xM_i .int (by decide +kernel) (Nat.le_of_ble_eq_true rfl) (L0 := [some (.ref b)]) rfl rfl fun Θ hC hret => ?_
  refine x_aload_n hC d_AbstractStringBuilder_length_0 rfl rfl ?_
  refine x_getf hC kf_AbstractStringBuilder_79 hb rfl d_AbstractStringBuilder_length_1 ?_
  exact hret _ _ _ _ _ _ _ d_AbstractStringBuilder_length_4 (by decide) (by decide) rfl (⟨rfl, rfl, rfl⟩)

theorem d_StringBuilder_length_0 : decode prog_34_method_93_code 0 = .ok (.aload_n 0, 1) := by decide +kernel
theorem d_StringBuilder_length_1 : decode prog_34_method_93_code 1 = .ok (.invokespecial 343, 3) := by decide +kernel
theorem d_StringBuilder_length_4 : decode prog_34_method_93_code 4 = .ok (.ireturn, 1) := by decide +kernel
set_option maxHeartbeats 4000000 in
set_option maxRecDepth 20000 in
theorem c_StringBuilder_length {P : xP} {F : xF} {z : Nat} {b : Nat} {v : Nat} {c : Nat} (hb : F (b) = some (.inl (10, [.ref v, .int (nI 0), .int (nI 0), .int (nI (c))])))  : xM P xy_StringBuilder_length [.ref b] F (z) 0 0 (fun r9 F9 z9 => r9 = some (.int (nI (c))) ∧ F9 = F ∧ z9 = z) := by
  refine xM_i .int (by decide +kernel) (Nat.le_of_ble_eq_true rfl) (L0 := [some (.ref b)]) rfl rfl fun Θ hC hret => ?_
  refine x_aload_n hC d_StringBuilder_length_0 rfl rfl ?_
  refine x_callQ hC kq_StringBuilder_343 (c_AbstractStringBuilder_length (hb := hb)) hb rfl (by decide) rfl rfl rfl (Nat.le_of_ble_eq_true rfl) (by decide) d_StringBuilder_length_1 (fun r9 F9 z9 hp9 => ?_)
  obtain ⟨rfl, h9b, h9c⟩ := hp9
  rw [h9b, h9c]
  clear h9b h9c F9 z9
  exact hret _ _ _ _ _ _ _ d_StringBuilder_length_4 (by decide) (by decide) rfl (⟨rfl, rfl, rfl⟩)

theorem d_StringLatin1_canEncode_0 : decode prog_35_method_3_code 0 = .ok (.iload_n 0, 1) := by decide +kernel
theorem d_StringLatin1_canEncode_1 : decode prog_35_method_3_code 1 = .ok (.sipush 255, 3) := by decide +kernel
theorem d_StringLatin1_canEncode_4 : decode prog_35_method_3_code 4 = .ok (.if_icmp .gt 7, 3) := by decide +kernel
theorem d_StringLatin1_canEncode_7 : decode prog_35_method_3_code 7 = .ok (.iconst 1, 1) := by decide +kernel
theorem d_StringLatin1_canEncode_8 : decode prog_35_method_3_code 8 = .ok (.goto 4, 3) := by decide +kernel
theorem d_StringLatin1_canEncode_11 : decode prog_35_method_3_code 11 = .ok (.iconst 0, 1) := by decide +kernel
theorem d_StringLatin1_canEncode_12 : decode prog_35_method_3_code 12 = .ok (.ireturn, 1) := by decide +kernel
set_option maxHeartbeats 4000000 in
set_option maxRecDepth 20000 in
theorem c_StringLatin1_canEncode {P : xP} {F : xF} {z : Nat} {x : Nat}  (hx : x < 128) : xM P xy_StringLatin1_canEncode [.int (nI (x))] F (z) 0 0 (fun r9 F9 z9 => r9 = some (.int (nI 1)) ∧ F9 = F ∧ z9 = z) := by
  refine xM_i .boolean (by decide +kernel) (Nat.le_of_ble_eq_true rfl) (L0 := [some (.int (nI (x)))]) rfl rfl fun Θ hC hret => ?_
  refine x_iload_n hC d_StringLatin1_canEncode_0 rfl rfl ?_
  refine x_sipush hC d_StringLatin1_canEncode_1 (v := nI 255) (by decide) ?_
  refine x_icmpN_gt hC d_StringLatin1_canEncode_4 (tgt := 11) (by decide) (by omega) (by omega) (fun c_4 => ?_) (fun c_4 => ?_)
  · skip
    exact absurd c_4 (by omega)
  · skip
    refine x_iconst hC d_StringLatin1_canEncode_7 (v := nI 1) (by decide) ?_
    refine x_goto hC d_StringLatin1_canEncode_8 (tgt := 12) (by decide) ?_
    exact hret _ _ _ _ _ _ _ d_StringLatin1_canEncode_12 (by decide) (by decide) rfl (⟨rfl, rfl, rfl⟩)

theorem d_ArraysSupport_newLength_0 : decode prog_45_method_27_code 0 = .ok (.iload_n 0, 1) := by decide +kernel
theorem d_ArraysSupport_newLength_1 : decode prog_45_method_27_code 1 = .ok (.iload_n 1, 1) := by decide +kernel
theorem d_ArraysSupport_newLength_2 : decode prog_45_method_27_code 2 = .ok (.iload_n 2, 1) := by decide +kernel
theorem d_ArraysSupport_newLength_3 : decode prog_45_method_27_code 3 = .ok (.invokestatic 194, 3) := by decide +kernel
theorem d_ArraysSupport_newLength_6 : decode prog_45_method_27_code 6 = .ok (.iadd, 1) := by decide +kernel
theorem d_ArraysSupport_newLength_7 : decode prog_45_method_27_code 7 = .ok (.istore_n 3, 1) := by decide +kernel
theorem d_ArraysSupport_newLength_8 : decode prog_45_method_27_code 8 = .ok (.iconst 0, 1) := by decide +kernel
theorem d_ArraysSupport_newLength_9 : decode prog_45_method_27_code 9 = .ok (.iload_n 3, 1) := by decide +kernel
theorem d_ArraysSupport_newLength_10 : decode prog_45_method_27_code 10 = .ok (.if_icmp .ge 11, 3) := by decide +kernel
theorem d_ArraysSupport_newLength_13 : decode prog_45_method_27_code 13 = .ok (.iload_n 3, 1) := by decide +kernel
theorem d_ArraysSupport_newLength_14 : decode prog_45_method_27_code 14 = .ok (.ldc 200, 2) := by decide +kernel
theorem d_ArraysSupport_newLength_16 : decode prog_45_method_27_code 16 = .ok (.if_icmp .gt 5, 3) := by decide +kernel
theorem d_ArraysSupport_newLength_19 : decode prog_45_method_27_code 19 = .ok (.iload_n 3, 1) := by decide +kernel
theorem d_ArraysSupport_newLength_20 : decode prog_45_method_27_code 20 = .ok (.ireturn, 1) := by decide +kernel
theorem d_ArraysSupport_newLength_21 : decode prog_45_method_27_code 21 = .ok (.iload_n 0, 1) := by decide +kernel
theorem d_ArraysSupport_newLength_22 : decode prog_45_method_27_code 22 = .ok (.iload_n 1, 1) := by decide +kernel
theorem d_ArraysSupport_newLength_23 : decode prog_45_method_27_code 23 = .ok (.invokestatic 201, 3) := by decide +kernel
theorem d_ArraysSupport_newLength_26 : decode prog_45_method_27_code 26 = .ok (.ireturn, 1) := by decide +kernel
set_option maxHeartbeats 4000000 in
set_option maxRecDepth 20000 in
theorem c_ArraysSupport_newLength {P : xP} {F : xF} {z : Nat} {K : Nat} {a : Nat} {e : Nat} {r : Nat}  (hr : (if a < e then e else a) = r) (h1 : K ≤ 5000 ∧ a ≤ 5000 ∧ e ≤ 6000 ∧ 0 < a) : xM P xy_ArraysSupport_newLength [.int (nI (K)), .int (nI (a)), .int (nI (e))] F (z) 0 0 (fun r9 F9 z9 => r9 = some (.int (nI (K + r))) ∧ F9 = F ∧ z9 = z) := by
  refine xM_i .int (by decide +kernel) (Nat.le_of_ble_eq_true rfl) (L0 := [some (.int (nI (K))), some (.int (nI (a))), some (.int (nI (e))), none]) rfl rfl fun Θ hC hret => ?_
  have hrb : 0 < r ∧ r ≤ 6000 := by rw [← hr]; split <;> omega
  refine x_iload_n hC d_ArraysSupport_newLength_0 rfl rfl ?_
  refine x_iload_n hC d_ArraysSupport_newLength_1 rfl rfl ?_
  refine x_iload_n hC d_ArraysSupport_newLength_2 rfl rfl ?_
  refine x_mmaxN hC km_ArraysSupport_194 (by omega) (by omega) rfl (by decide) (Nat.le_of_ble_eq_true rfl) (by decide) d_ArraysSupport_newLength_3 (v := r) hr ?_
  refine x_iadd hC d_ArraysSupport_newLength_6 (v := (nI (K + r))) (x_addN (by omega)) ?_
  refine x_istore_n hC d_ArraysSupport_newLength_7 rfl (Nat.le_of_ble_eq_true rfl) (L1 := [some (.int (nI (K))), some (.int (nI (a))), some (.int (nI (e))), some (.int (nI (K + r)))]) rfl ?_
  refine x_iconst hC d_ArraysSupport_newLength_8 (v := nI 0) (by decide) ?_
  refine x_iload_n hC d_ArraysSupport_newLength_9 rfl rfl ?_
  refine x_icmpN_ge hC d_ArraysSupport_newLength_10 (tgt := 21) (by decide) (by omega) (by omega) (fun c_10 => ?_) (fun c_10 => ?_)
  · skip
    exact absurd c_10 (by omega)
  · skip
    refine x_iload_n hC d_ArraysSupport_newLength_13 rfl rfl ?_
    refine x_ldc hC (v := nI 2147483639) (x_in (x_of (xtb_6 (List.mem_of_getElem? (i := 186) (by decide +kernel)))) (by decide +kernel)) d_ArraysSupport_newLength_14 ?_
    refine x_icmpN_gt hC d_ArraysSupport_newLength_16 (tgt := 21) (by decide) (by omega) (by omega) (fun c_16 => ?_) (fun c_16 => ?_)
    · skip
      exact absurd c_16 (by omega)
    · skip
      refine x_iload_n hC d_ArraysSupport_newLength_19 rfl rfl ?_
      exact hret _ _ _ _ _ _ _ d_ArraysSupport_newLength_20 (by decide) (by decide) rfl (⟨rfl, rfl, rfl⟩)

theorem d_AbstractStringBuilder_newCapacity_0 : decode prog_16_method_10_code 0 = .ok (.aload_n 0, 1) := by decide +kernel
theorem d_AbstractStringBuilder_newCapacity_1 : decode prog_16_method_10_code 1 = .ok (.getfield 15, 3) := by decide +kernel
theorem d_AbstractStringBuilder_newCapacity_4 : decode prog_16_method_10_code 4 = .ok (.arraylength, 1) := by decide +kernel
theorem d_AbstractStringBuilder_newCapacity_5 : decode prog_16_method_10_code 5 = .ok (.istore_n 2, 1) := by decide +kernel
theorem d_AbstractStringBuilder_newCapacity_6 : decode prog_16_method_10_code 6 = .ok (.iload_n 1, 1) := by decide +kernel
theorem d_AbstractStringBuilder_newCapacity_7 : decode prog_16_method_10_code 7 = .ok (.aload_n 0, 1) := by decide +kernel
theorem d_AbstractStringBuilder_newCapacity_8 : decode prog_16_method_10_code 8 = .ok (.getfield 22, 3) := by decide +kernel
theorem d_AbstractStringBuilder_newCapacity_11 : decode prog_16_method_10_code 11 = .ok (.ishl, 1) := by decide +kernel
theorem d_AbstractStringBuilder_newCapacity_12 : decode prog_16_method_10_code 12 = .ok (.istore_n 3, 1) := by decide +kernel
theorem d_AbstractStringBuilder_newCapacity_13 : decode prog_16_method_10_code 13 = .ok (.iload_n 3, 1) := by decide +kernel
theorem d_AbstractStringBuilder_newCapacity_14 : decode prog_16_method_10_code 14 = .ok (.iload_n 2, 1) := by decide +kernel
theorem d_AbstractStringBuilder_newCapacity_15 : decode prog_16_method_10_code 15 = .ok (.isub, 1) := by decide +kernel
theorem d_AbstractStringBuilder_newCapacity_16 : decode prog_16_method_10_code 16 = .ok (.istore 4, 2) := by decide +kernel
theorem d_AbstractStringBuilder_newCapacity_18 : decode prog_16_method_10_code 18 = .ok (.iload_n 2, 1) := by decide +kernel
theorem d_AbstractStringBuilder_newCapacity_19 : decode prog_16_method_10_code 19 = .ok (.iload 4, 2) := by decide +kernel
theorem d_AbstractStringBuilder_newCapacity_21 : decode prog_16_method_10_code 21 = .ok (.iload_n 2, 1) := by decide +kernel
theorem d_AbstractStringBuilder_newCapacity_22 : decode prog_16_method_10_code 22 = .ok (.iconst 2, 1) := by decide +kernel
theorem d_AbstractStringBuilder_newCapacity_23 : decode prog_16_method_10_code 23 = .ok (.aload_n 0, 1) := by decide +kernel
theorem d_AbstractStringBuilder_newCapacity_24 : decode prog_16_method_10_code 24 = .ok (.getfield 22, 3) := by decide +kernel
theorem d_AbstractStringBuilder_newCapacity_27 : decode prog_16_method_10_code 27 = .ok (.ishl, 1) := by decide +kernel
theorem d_AbstractStringBuilder_newCapacity_28 : decode prog_16_method_10_code 28 = .ok (.iadd, 1) := by decide +kernel
theorem d_AbstractStringBuilder_newCapacity_29 : decode prog_16_method_10_code 29 = .ok (.invokestatic 114, 3) := by decide +kernel
theorem d_AbstractStringBuilder_newCapacity_32 : decode prog_16_method_10_code 32 = .ok (.istore 5, 2) := by decide +kernel
theorem d_AbstractStringBuilder_newCapacity_34 : decode prog_16_method_10_code 34 = .ok (.iload 5, 2) := by decide +kernel
theorem d_AbstractStringBuilder_newCapacity_36 : decode prog_16_method_10_code 36 = .ok (.ldc 39, 2) := by decide +kernel
theorem d_AbstractStringBuilder_newCapacity_38 : decode prog_16_method_10_code 38 = .ok (.if_icmp .ne 13, 3) := by decide +kernel
theorem d_AbstractStringBuilder_newCapacity_41 : decode prog_16_method_10_code 41 = .ok (.new 120, 3) := by decide +kernel
theorem d_AbstractStringBuilder_newCapacity_44 : decode prog_16_method_10_code 44 = .ok (.dup, 1) := by decide +kernel
theorem d_AbstractStringBuilder_newCapacity_45 : decode prog_16_method_10_code 45 = .ok (.ldc 122, 2) := by decide +kernel
theorem d_AbstractStringBuilder_newCapacity_47 : decode prog_16_method_10_code 47 = .ok (.invokespecial 124, 3) := by decide +kernel
theorem d_AbstractStringBuilder_newCapacity_50 : decode prog_16_method_10_code 50 = .ok (.athrow, 1) := by decide +kernel
theorem d_AbstractStringBuilder_newCapacity_51 : decode prog_16_method_10_code 51 = .ok (.iload 5, 2) := by decide +kernel
theorem d_AbstractStringBuilder_newCapacity_53 : decode prog_16_method_10_code 53 = .ok (.aload_n 0, 1) := by decide +kernel
theorem d_AbstractStringBuilder_newCapacity_54 : decode prog_16_method_10_code 54 = .ok (.getfield 22, 3) := by decide +kernel
theorem d_AbstractStringBuilder_newCapacity_57 : decode prog_16_method_10_code 57 = .ok (.ishr, 1) := by decide +kernel
theorem d_AbstractStringBuilder_newCapacity_58 : decode prog_16_method_10_code 58 = .ok (.ireturn, 1) := by decide +kernel
set_option maxHeartbeats 4000000 in
set_option maxRecDepth 20000 in
theorem c_AbstractStringBuilder_newCapacity {P : xP} {F : xF} {z : Nat} {b : Nat} {v : Nat} {c : Nat} {K : Nat} {g : Nat → Nat} {m : Nat} (hb : F (b) = some (.inl (10, [.ref v, .int (nI 0), .int (nI 0), .int (nI (c))]))) (hv : F (v) = some (.inr (2, K, fun b9 => .int (nI (g b9))))) (h1 : K < m ∧ m ≤ 2000) : xM P xy_AbstractStringBuilder_newCapacity [.ref b, .int (nI (m))] F (z) 0 0 (fun r9 F9 z9 => r9 = some (.int (nI (ncap K m))) ∧ F9 = F ∧ z9 = z) := by
  refine xM_i .int (by decide +kernel) (Nat.le_of_ble_eq_true rfl) (L0 := [some (.ref b), some (.int (nI (m))), none, none, none, none]) rfl rfl fun Θ hC hret => ?_
  obtain ⟨r, hr⟩ : ∃ r, (if m - K < K + 2 then K + 2 else m - K) = r := ⟨_, rfl⟩
  have hrb : 0 < r ∧ r ≤ 3000 := by rw [← hr]; split <;> omega
  refine x_aload_n hC d_AbstractStringBuilder_newCapacity_0 rfl rfl ?_
  refine x_getf hC kf_AbstractStringBuilder_15 hb rfl d_AbstractStringBuilder_newCapacity_1 ?_
  refine x_alen hC hv (by decide) rfl d_AbstractStringBuilder_newCapacity_4 ?_
  refine x_istore_n hC d_AbstractStringBuilder_newCapacity_5 rfl (Nat.le_of_ble_eq_true rfl) (L1 := [some (.ref b), some (.int (nI (m))), some (.int (nI (K))), none, none, none]) rfl ?_
  refine x_iload_n hC d_AbstractStringBuilder_newCapacity_6 rfl rfl ?_
  refine x_aload_n hC d_AbstractStringBuilder_newCapacity_7 rfl rfl ?_
  refine x_getf hC kf_AbstractStringBuilder_22 hb rfl d_AbstractStringBuilder_newCapacity_8 ?_
  refine x_ishl hC d_AbstractStringBuilder_newCapacity_11 (v := (nI (m))) (x_shlN 0 (by decide) (by omega) (by omega)) ?_
  refine x_istore_n hC d_AbstractStringBuilder_newCapacity_12 rfl (Nat.le_of_ble_eq_true rfl) (L1 := [some (.ref b), some (.int (nI (m))), some (.int (nI (K))), some (.int (nI (m))), none, none]) rfl ?_
  refine x_iload_n hC d_AbstractStringBuilder_newCapacity_13 rfl rfl ?_
  refine x_iload_n hC d_AbstractStringBuilder_newCapacity_14 rfl rfl ?_
  refine x_isub hC d_AbstractStringBuilder_newCapacity_15 (v := (nI ((m) - (K)))) (pk_sub (by omega)) ?_
  refine x_istore hC d_AbstractStringBuilder_newCapacity_16 (Nat.le_of_ble_eq_true rfl) (L1 := [some (.ref b), some (.int (nI (m))), some (.int (nI (K))), some (.int (nI (m))), some (.int (nI ((m) - (K)))), none]) rfl ?_
  refine x_iload_n hC d_AbstractStringBuilder_newCapacity_18 rfl rfl ?_
  refine x_iload hC d_AbstractStringBuilder_newCapacity_19 rfl ?_
  refine x_iload_n hC d_AbstractStringBuilder_newCapacity_21 rfl rfl ?_
  refine x_iconst hC d_AbstractStringBuilder_newCapacity_22 (v := nI 2) (by decide) ?_
  refine x_aload_n hC d_AbstractStringBuilder_newCapacity_23 rfl rfl ?_
  refine x_getf hC kf_AbstractStringBuilder_22 hb rfl d_AbstractStringBuilder_newCapacity_24 ?_
  refine x_ishl hC d_AbstractStringBuilder_newCapacity_27 (v := (nI (2))) (by decide) ?_
  refine x_iadd hC d_AbstractStringBuilder_newCapacity_28 (v := (nI (K + 2))) (x_addN (by omega)) ?_
  refine x_callS hC ks_AbstractStringBuilder_114 (c_ArraysSupport_newLength (hr := hr) (h1 := by omega) (r := r)) (by decide) rfl rfl rfl (Nat.le_of_ble_eq_true rfl) (by decide) d_AbstractStringBuilder_newCapacity_29 (fun r9 F9 z9 hp9 => ?_)
  obtain ⟨rfl, h9b, h9c⟩ := hp9
  rw [h9b, h9c]
  clear h9b h9c F9 z9
  refine x_istore hC d_AbstractStringBuilder_newCapacity_32 (Nat.le_of_ble_eq_true rfl) (L1 := [some (.ref b), some (.int (nI (m))), some (.int (nI (K))), some (.int (nI (m))), some (.int (nI ((m) - (K)))), some (.int (nI (K + r)))]) rfl ?_
  refine x_iload hC d_AbstractStringBuilder_newCapacity_34 rfl ?_
  refine x_ldc hC (v := nI 2147483647) (x_in (x_of (xtb_6 (List.mem_of_getElem? (i := 190) (by decide +kernel)))) (by decide +kernel)) d_AbstractStringBuilder_newCapacity_36 ?_
  refine x_icmpN_ne hC d_AbstractStringBuilder_newCapacity_38 (tgt := 51) (by decide) (by omega) (by omega) (fun c_38 => ?_) (fun c_38 => ?_)
  · skip
    refine x_iload hC d_AbstractStringBuilder_newCapacity_51 rfl ?_
    refine x_aload_n hC d_AbstractStringBuilder_newCapacity_53 rfl rfl ?_
    refine x_getf hC kf_AbstractStringBuilder_22 hb rfl d_AbstractStringBuilder_newCapacity_54 ?_
    refine x_ishr hC d_AbstractStringBuilder_newCapacity_57 (v := (nI (K + r))) (x_shrN 0 (by decide) (by omega) (by omega)) ?_
    refine x_top (v := (nI (ncap K m))) (by rw [ncap, hr]) ?_
    exact hret _ _ _ _ _ _ _ d_AbstractStringBuilder_newCapacity_58 (by decide) (by decide) rfl (⟨rfl, rfl, rfl⟩)
  · skip
    exact absurd c_38 (by omega)

theorem d_Arrays_copyOf_0 : decode prog_41_method_121_code 0 = .ok (.iload_n 1, 1) := by decide +kernel
theorem d_Arrays_copyOf_1 : decode prog_41_method_121_code 1 = .ok (.aload_n 0, 1) := by decide +kernel
theorem d_Arrays_copyOf_2 : decode prog_41_method_121_code 2 = .ok (.arraylength, 1) := by decide +kernel
theorem d_Arrays_copyOf_3 : decode prog_41_method_121_code 3 = .ok (.if_icmp .ne 11, 3) := by decide +kernel
theorem d_Arrays_copyOf_6 : decode prog_41_method_121_code 6 = .ok (.aload_n 0, 1) := by decide +kernel
theorem d_Arrays_copyOf_7 : decode prog_41_method_121_code 7 = .ok (.invokevirtual 310, 3) := by decide +kernel
theorem d_Arrays_copyOf_10 : decode prog_41_method_121_code 10 = .ok (.checkcast 311, 3) := by decide +kernel
theorem d_Arrays_copyOf_13 : decode prog_41_method_121_code 13 = .ok (.areturn, 1) := by decide +kernel
theorem d_Arrays_copyOf_14 : decode prog_41_method_121_code 14 = .ok (.iload_n 1, 1) := by decide +kernel
theorem d_Arrays_copyOf_15 : decode prog_41_method_121_code 15 = .ok (.newarray .byte, 2) := by decide +kernel
theorem d_Arrays_copyOf_17 : decode prog_41_method_121_code 17 = .ok (.astore_n 2, 1) := by decide +kernel
theorem d_Arrays_copyOf_18 : decode prog_41_method_121_code 18 = .ok (.aload_n 0, 1) := by decide +kernel
theorem d_Arrays_copyOf_19 : decode prog_41_method_121_code 19 = .ok (.iconst 0, 1) := by decide +kernel
theorem d_Arrays_copyOf_20 : decode prog_41_method_121_code 20 = .ok (.aload_n 2, 1) := by decide +kernel
theorem d_Arrays_copyOf_21 : decode prog_41_method_121_code 21 = .ok (.iconst 0, 1) := by decide +kernel
theorem d_Arrays_copyOf_22 : decode prog_41_method_121_code 22 = .ok (.aload_n 0, 1) := by decide +kernel
theorem d_Arrays_copyOf_23 : decode prog_41_method_121_code 23 = .ok (.arraylength, 1) := by decide +kernel
theorem d_Arrays_copyOf_24 : decode prog_41_method_121_code 24 = .ok (.iload_n 1, 1) := by decide +kernel
theorem d_Arrays_copyOf_25 : decode prog_41_method_121_code 25 = .ok (.invokestatic 304, 3) := by decide +kernel
theorem d_Arrays_copyOf_28 : decode prog_41_method_121_code 28 = .ok (.invokestatic 150, 3) := by decide +kernel
theorem d_Arrays_copyOf_31 : decode prog_41_method_121_code 31 = .ok (.aload_n 2, 1) := by decide +kernel
theorem d_Arrays_copyOf_32 : decode prog_41_method_121_code 32 = .ok (.areturn, 1) := by decide +kernel
set_option maxHeartbeats 4000000 in
set_option maxRecDepth 20000 in
theorem c_Arrays_copyOf {P : xP} {F : xF} {z : Nat} {v : Nat} {m : Nat} {K : Nat} {g : Nat → Nat} (hv : F (v) = some (.inr (2, K, fun b9 => .int (nI (g b9))))) (h1 : K < m ∧ m ≤ 9000) (hg : ∀ j, j < K → g j < 128) (hvz : v < z) : xM P xy_Arrays_copyOf [.ref v, .int (nI (m))] F (z) 1 m (fun r9 F9 z9 => ∃ g1 : Nat → Nat, r9 = some (.ref z) ∧ z9 = z + 1 ∧ F9 (v) = some (.inr (2, K, fun b9 => .int (nI (g b9)))) ∧ F9 (z) = some (.inr (2, m, fun b9 => .int (nI (g1 b9)))) ∧ ((∀ j, j < K → g1 j = g j) ∧ ∀ j, j < m → g1 j < 128) ∧ (∀ a9 : Nat, (a9 < z ∨ z + 1 ≤ a9) → F9 a9 = F a9)) := by
  refine xM_a (by decide +kernel) (Nat.le_of_ble_eq_true rfl) (L0 := [some (.ref v), some (.int (nI (m))), none]) rfl rfl (by simp) fun Θ hC hret => ?_
  have hag : ∀ a9 : Nat, (a9 < z ∨ z + 1 ≤ a9) → F a9 = F a9 := fun a9 _ => rfl
  refine x_iload_n hC d_Arrays_copyOf_0 rfl rfl ?_
  refine x_aload_n hC d_Arrays_copyOf_1 rfl rfl ?_
  refine x_alen hC hv (by decide) rfl d_Arrays_copyOf_2 ?_
  refine x_icmpN_ne hC d_Arrays_copyOf_3 (tgt := 14) (by decide) (by omega) (by omega) (fun c_3 => ?_) (fun c_3 => ?_)
  · skip
    refine x_iload_n hC d_Arrays_copyOf_14 rfl rfl ?_
    refine x_newa hC (t := 2) rfl (by decide) (by decide) (x_in (x_of (xtb_2 (List.mem_of_getElem? (i := 192) (by decide +kernel)))) (by decide +kernel)) rfl (by omega) (xt_nb (by omega)) ⟨by omega, by omega⟩ (f1 := fun b9 => .int (nI ((fun _ => 0) b9))) rfl d_Arrays_copyOf_15 ?_
    generalize e1 : xup F (z) (.inr (2, m, fun b9 => .int (nI ((fun _ => 0) b9)))) = F1
    have hv : F1 (v) = some (.inr (2, K, fun b9 => .int (nI (g b9)))) := by rw [← e1]; exact (xup_ne (by omega)).trans hv
    have hn : F1 (z) = some (.inr (2, m, fun b9 => .int (nI ((fun _ => 0) b9)))) := by rw [← e1]; exact xup_eq
    have hag : ∀ a9 : Nat, (a9 < z ∨ z + 1 ≤ a9) → F1 a9 = F a9 := fun a9 q0 => by rw [← e1]; exact (xup_ne (by omega)).trans (hag a9 q0)
    refine x_astore_n hC d_Arrays_copyOf_17 rfl (Nat.le_of_ble_eq_true rfl) (L1 := [some (.ref v), some (.int (nI (m))), some (.ref z)]) rfl ?_
    refine x_aload_n hC d_Arrays_copyOf_18 rfl rfl ?_
    refine x_iconst hC d_Arrays_copyOf_19 (v := nI 0) (by decide) ?_
    refine x_aload_n hC d_Arrays_copyOf_20 rfl rfl ?_
    refine x_iconst hC d_Arrays_copyOf_21 (v := nI 0) (by decide) ?_
    refine x_aload_n hC d_Arrays_copyOf_22 rfl rfl ?_
    refine x_alen hC hv (by decide) rfl d_Arrays_copyOf_23 ?_
    refine x_iload_n hC d_Arrays_copyOf_24 rfl rfl ?_
    refine x_mminN hC km_Arrays_304 (by omega) (by omega) rfl (by decide) (Nat.le_of_ble_eq_true rfl) ⟨by omega, by omega⟩ d_Arrays_copyOf_25 (v := K) (if_neg (by omega)) ?_
    refine x_copyN hC kac_Arrays_150 (sp := 0) (dp := 0) (m := K) hv hn (by omega) (by omega) (by omega) (by omega) (by omega) (fun i hi => by rw [Nat.zero_add]; exact hg i hi) rfl (by decide) (Nat.le_of_ble_eq_true rfl) d_Arrays_copyOf_28 ?_
    generalize eg1 : va_cpy g ((fun _ => 0)) (0) (0) (K) = g1
    generalize e3 : xup F1 (z) (.inr (2, m, fun b9 => .int (nI (g1 b9)))) = F3
    have hv : F3 (v) = some (.inr (2, K, fun b9 => .int (nI (g b9)))) := by rw [← e3]; exact (xup_ne (by omega)).trans hv
    have hn : F3 (z) = some (.inr (2, m, fun b9 => .int (nI (g1 b9)))) := by rw [← e3]; exact xup_eq
    have hag : ∀ a9 : Nat, (a9 < z ∨ z + 1 ≤ a9) → F3 a9 = F a9 := fun a9 q0 => by rw [← e3]; exact (xup_ne (by omega)).trans (hag a9 q0)
    refine x_aload_n hC d_Arrays_copyOf_31 rfl rfl ?_
    exact hret _ _ _ _ _ _ _ d_Arrays_copyOf_32 (by decide) (by omega) (Or.inr ⟨_, rfl⟩) (⟨g1, rfl, rfl, hv, hn, ⟨fun j hj => by rw [← eg1, va_cpy, if_pos (by omega), Nat.zero_add, Nat.sub_zero], fun j hj => (Nat.lt_or_ge j K).elim (fun q => by rw [← eg1, va_cpy, if_pos (by omega), Nat.zero_add, Nat.sub_zero]; exact hg j q) (fun q => by rw [← eg1, va_cpy, if_neg (by omega)]; decide)⟩, hag⟩)
  · skip
    exact absurd c_3 (by omega)

theorem d_AbstractStringBuilder_ensureCapacityInternal_0 : decode prog_16_method_9_code 0 = .ok (.aload_n 0, 1) := by decide +kernel
theorem d_AbstractStringBuilder_ensureCapacityInternal_1 : decode prog_16_method_9_code 1 = .ok (.getfield 15, 3) := by decide +kernel
theorem d_AbstractStringBuilder_ensureCapacityInternal_4 : decode prog_16_method_9_code 4 = .ok (.arraylength, 1) := by decide +kernel
theorem d_AbstractStringBuilder_ensureCapacityInternal_5 : decode prog_16_method_9_code 5 = .ok (.aload_n 0, 1) := by decide +kernel
theorem d_AbstractStringBuilder_ensureCapacityInternal_6 : decode prog_16_method_9_code 6 = .ok (.getfield 22, 3) := by decide +kernel
theorem d_AbstractStringBuilder_ensureCapacityInternal_9 : decode prog_16_method_9_code 9 = .ok (.ishr, 1) := by decide +kernel
theorem d_AbstractStringBuilder_ensureCapacityInternal_10 : decode prog_16_method_9_code 10 = .ok (.istore_n 2, 1) := by decide +kernel
theorem d_AbstractStringBuilder_ensureCapacityInternal_11 : decode prog_16_method_9_code 11 = .ok (.iload_n 1, 1) := by decide +kernel
theorem d_AbstractStringBuilder_ensureCapacityInternal_12 : decode prog_16_method_9_code 12 = .ok (.iload_n 2, 1) := by decide +kernel
theorem d_AbstractStringBuilder_ensureCapacityInternal_13 : decode prog_16_method_9_code 13 = .ok (.isub, 1) := by decide +kernel
theorem d_AbstractStringBuilder_ensureCapacityInternal_14 : decode prog_16_method_9_code 14 = .ok (.ifCond .le 24, 3) := by decide +kernel
theorem d_AbstractStringBuilder_ensureCapacityInternal_17 : decode prog_16_method_9_code 17 = .ok (.aload_n 0, 1) := by decide +kernel
theorem d_AbstractStringBuilder_ensureCapacityInternal_18 : decode prog_16_method_9_code 18 = .ok (.aload_n 0, 1) := by decide +kernel
theorem d_AbstractStringBuilder_ensureCapacityInternal_19 : decode prog_16_method_9_code 19 = .ok (.getfield 15, 3) := by decide +kernel
theorem d_AbstractStringBuilder_ensureCapacityInternal_22 : decode prog_16_method_9_code 22 = .ok (.aload_n 0, 1) := by decide +kernel
theorem d_AbstractStringBuilder_ensureCapacityInternal_23 : decode prog_16_method_9_code 23 = .ok (.iload_n 1, 1) := by decide +kernel
theorem d_AbstractStringBuilder_ensureCapacityInternal_24 : decode prog_16_method_9_code 24 = .ok (.invokevirtual 104, 3) := by decide +kernel
theorem d_AbstractStringBuilder_ensureCapacityInternal_27 : decode prog_16_method_9_code 27 = .ok (.aload_n 0, 1) := by decide +kernel
theorem d_AbstractStringBuilder_ensureCapacityInternal_28 : decode prog_16_method_9_code 28 = .ok (.getfield 22, 3) := by decide +kernel
theorem d_AbstractStringBuilder_ensureCapacityInternal_31 : decode prog_16_method_9_code 31 = .ok (.ishl, 1) := by decide +kernel
theorem d_AbstractStringBuilder_ensureCapacityInternal_32 : decode prog_16_method_9_code 32 = .ok (.invokestatic 108, 3) := by decide +kernel
theorem d_AbstractStringBuilder_ensureCapacityInternal_35 : decode prog_16_method_9_code 35 = .ok (.putfield 15, 3) := by decide +kernel
theorem d_AbstractStringBuilder_ensureCapacityInternal_38 : decode prog_16_method_9_code 38 = .ok (.return_, 1) := by decide +kernel
set_option maxHeartbeats 4000000 in
set_option maxRecDepth 20000 in
theorem c_AbstractStringBuilder_ensureCapacityInternal {P : xP} {F : xF} {z : Nat} {b : Nat} {v : Nat} {c : Nat} {K : Nat} {g : Nat → Nat} {m : Nat} (hb : F (b) = some (.inl (10, [.ref v, .int (nI 0), .int (nI 0), .int (nI (c))]))) (hv : F (v) = some (.inr (2, K, fun b9 => .int (nI (g b9))))) (h1 : K ≤ 450 ∧ m ≤ 450) (hg : ∀ j, j < K → g j < 128) (hbv : b ≠ v ∧ b < z ∧ v < z) : xM P xy_AbstractStringBuilder_ensureCapacityInternal [.ref b, .int (nI (m))] F (z) 1 1000 (fun r9 F9 z9 => ∃ v1 : Nat, ∃ K1 : Nat, ∃ g1 : Nat → Nat, ∃ zz : Nat, r9 = none ∧ z9 = zz ∧ F9 (b) = some (.inl (10, [.ref v1, .int (nI 0), .int (nI 0), .int (nI (c))])) ∧ F9 (v1) = some (.inr (2, K1, fun b9 => .int (nI (g1 b9)))) ∧ ((m ≤ K1 ∧ K ≤ K1 ∧ (K1 = K ∨ K1 = ncap K m ∧ K < m)) ∧ (∀ j, j < K → g1 j = g j) ∧ ∀ j, j < K1 → g1 j < 128) ∧ ((v1 = v ∧ zz = z) ∨ (v1 = z ∧ zz = z + 1)) ∧ (∀ a9 : Nat, (a9 < b ∨ b + 1 ≤ a9) → (a9 < z ∨ z + 1 ≤ a9) → F9 a9 = F a9)) := by
  refine xM_v (by decide +kernel) (Nat.le_of_ble_eq_true rfl) (L0 := [some (.ref b), some (.int (nI (m))), none]) rfl rfl fun Θ hC hin hret => ?_
  have hag : ∀ a9 : Nat, (a9 < b ∨ b + 1 ≤ a9) → (a9 < z ∨ z + 1 ≤ a9) → F a9 = F a9 := fun a9 _ _ => rfl
  refine x_aload_n hC d_AbstractStringBuilder_ensureCapacityInternal_0 rfl rfl ?_
  refine x_getf hC kf_AbstractStringBuilder_15 hb rfl d_AbstractStringBuilder_ensureCapacityInternal_1 ?_
  refine x_alen hC hv (by decide) rfl d_AbstractStringBuilder_ensureCapacityInternal_4 ?_
  refine x_aload_n hC d_AbstractStringBuilder_ensureCapacityInternal_5 rfl rfl ?_
  refine x_getf hC kf_AbstractStringBuilder_22 hb rfl d_AbstractStringBuilder_ensureCapacityInternal_6 ?_
  refine x_ishr hC d_AbstractStringBuilder_ensureCapacityInternal_9 (v := (nI (K))) (x_shrN 0 (by decide) (by omega) (by omega)) ?_
  refine x_istore_n hC d_AbstractStringBuilder_ensureCapacityInternal_10 rfl (Nat.le_of_ble_eq_true rfl) (L1 := [some (.ref b), some (.int (nI (m))), some (.int (nI (K)))]) rfl ?_
  refine x_iload_n hC d_AbstractStringBuilder_ensureCapacityInternal_11 rfl rfl ?_
  refine x_iload_n hC d_AbstractStringBuilder_ensureCapacityInternal_12 rfl rfl ?_
  refine x_isub hC d_AbstractStringBuilder_ensureCapacityInternal_13 (v := (nI m - nI K)) rfl ?_
  refine x_if_le hC d_AbstractStringBuilder_ensureCapacityInternal_14 (tgt := 38) (by decide) (fun c_14 => ?_) (fun c_14 => ?_)
  · skip
    have c9 := (xt_sub_le (by omega) (by omega)).mp c_14
    exact hret _ _ _ _ _ _ d_AbstractStringBuilder_ensureCapacityInternal_38 (by decide) (by decide) (⟨v, K, g, z, rfl, rfl, hb, hv, ⟨⟨c9, Nat.le_refl _, Or.inl rfl⟩, fun _ _ => rfl, hg⟩, Or.inl ⟨rfl, rfl⟩, hag⟩)
  · skip
    have c9 : ¬ m ≤ K := fun e => absurd ((xt_sub_le (by omega) (by omega)).mpr e) (by first | exact c_14 | exact Int32.not_le.mpr c_14)
    have hn9 := ncap_b (show K < m by omega)
    refine x_aload_n hC d_AbstractStringBuilder_ensureCapacityInternal_17 rfl rfl ?_
    refine x_aload_n hC d_AbstractStringBuilder_ensureCapacityInternal_18 rfl rfl ?_
    refine x_getf hC kf_AbstractStringBuilder_15 hb rfl d_AbstractStringBuilder_ensureCapacityInternal_19 ?_
    refine x_aload_n hC d_AbstractStringBuilder_ensureCapacityInternal_22 rfl rfl ?_
    refine x_iload_n hC d_AbstractStringBuilder_ensureCapacityInternal_23 rfl rfl ?_
    refine x_callU hC ku_AbstractStringBuilder_104 (c_AbstractStringBuilder_newCapacity (hb := hb) (hv := hv) (h1 := by omega)) hb rfl (by decide) rfl rfl rfl (Nat.le_of_ble_eq_true rfl) (by decide) d_AbstractStringBuilder_ensureCapacityInternal_24 (fun r9 F9 z9 hp9 => ?_)
    obtain ⟨rfl, h9b, h9c⟩ := hp9
    rw [h9b, h9c]
    clear h9b h9c F9 z9
    refine x_aload_n hC d_AbstractStringBuilder_ensureCapacityInternal_27 rfl rfl ?_
    refine x_getf hC kf_AbstractStringBuilder_22 hb rfl d_AbstractStringBuilder_ensureCapacityInternal_28 ?_
    refine x_ishl hC d_AbstractStringBuilder_ensureCapacityInternal_31 (v := (nI (ncap K m))) (x_shlN 0 (by decide) (by omega) (by omega)) ?_
    refine x_callS hC ks_AbstractStringBuilder_108 (c_Arrays_copyOf (hv := hv) (h1 := by omega) (hg := hg) (hvz := by omega)) (by decide) rfl rfl rfl (Nat.le_of_ble_eq_true rfl) ⟨by omega, by omega⟩ d_AbstractStringBuilder_ensureCapacityInternal_32 (fun r9 F9 z9 hp9 => ?_)
    obtain ⟨g1, rfl, h9c, j0, j1, pk_32, hag9⟩ := hp9
    rw [h9c]
    clear h9c z9
    generalize F9 = F1 at *
    have hb : F1 (b) = some (.inl (10, [.ref v, .int (nI 0), .int (nI 0), .int (nI (c))])) := (hag9 _ (by omega)).trans hb
    have hv : F1 (v) = some (.inr (2, K, fun b9 => .int (nI (g b9)))) := j0
    have hn : F1 (z) = some (.inr (2, (ncap K m), fun b9 => .int (nI (g1 b9)))) := j1
    have hag : ∀ a9 : Nat, (a9 < b ∨ b + 1 ≤ a9) → (a9 < z ∨ z + 1 ≤ a9) → F1 a9 = F a9 := fun a9 q0 q1 => (hag9 a9 (by omega)).trans (hag a9 q0 q1)
    have hg_32 := hag9
    clear hag9
    refine x_putf hC kf_AbstractStringBuilder_15 hb (Nat.le_of_ble_eq_true rfl) rfl rfl d_AbstractStringBuilder_ensureCapacityInternal_35 (fs1 := [.ref z, .int (nI 0), .int (nI 0), .int (nI (c))]) rfl ?_
    generalize e2 : xup F1 (b) (.inl (10, [.ref z, .int (nI 0), .int (nI 0), .int (nI (c))])) = F2
    have hb : F2 (b) = some (.inl (10, [.ref z, .int (nI 0), .int (nI 0), .int (nI (c))])) := by rw [← e2]; exact xup_eq
    have hv : F2 (v) = some (.inr (2, K, fun b9 => .int (nI (g b9)))) := by rw [← e2]; exact (xup_ne (by omega)).trans hv
    have hn : F2 (z) = some (.inr (2, (ncap K m), fun b9 => .int (nI (g1 b9)))) := by rw [← e2]; exact (xup_ne (by omega)).trans hn
    have hag : ∀ a9 : Nat, (a9 < b ∨ b + 1 ≤ a9) → (a9 < z ∨ z + 1 ≤ a9) → F2 a9 = F a9 := fun a9 q0 q1 => by rw [← e2]; exact (xup_ne (by omega)).trans (hag a9 q0 q1)
    exact hret _ _ _ _ _ _ d_AbstractStringBuilder_ensureCapacityInternal_38 (by decide) (by omega) (⟨z, ncap K m, g1, z + 1, rfl, rfl, hb, hn, ⟨⟨by omega, by omega, Or.inr ⟨rfl, by omega⟩⟩, pk_32⟩, Or.inr ⟨rfl, rfl⟩, hag⟩)

set_option maxHeartbeats 4000000 in
set_option maxRecDepth 20000 in
theorem c_String_coderJ {P : xP} {F : xF} {z : Nat} {s : Nat} {w : Nat} {fo : Nat} (hs : F (s) = some (.inl (11, [.ref w, .int (nI 0), .int (nI 0), .int (nI 0)]))) (hJ : xJd P fo) : xM P xy_String_coder [.ref s] F (z) 0 0 (fun r9 F9 z9 => r9 = some (.int (nI 0)) ∧ F9 = F ∧ z9 = z) := by
  refine xM_i .byte (by decide +kernel) (Nat.le_of_ble_eq_true rfl) (L0 := [some (.ref s)]) rfl rfl fun Θ hC hret => ?_
  refine x_gets hC (v := .int (nI 1)) hJ.1 (x_in (x_of (xtb_5 (List.mem_of_getElem? (i := 213) (by decide +kernel)))) (by decide +kernel)) d_String_coder_0 ?_
  refine x_ifN_eq hC d_String_coder_3 (tgt := 13) (by decide) (by omega) (fun c_3 => ?_) (fun c_3 => ?_)
  · skip
    exact absurd c_3 (by omega)
  · skip
    refine x_aload_n hC d_String_coder_6 rfl rfl ?_
    refine x_getf hC kf_String_15 hs rfl d_String_coder_7 ?_
    refine x_goto hC d_String_coder_10 (tgt := 14) (by decide) ?_
    exact hret _ _ _ _ _ _ _ d_String_coder_14 (by decide) (by decide) rfl (⟨rfl, rfl, rfl⟩)

set_option maxHeartbeats 4000000 in
set_option maxRecDepth 20000 in
theorem c_String_isLatin1J {P : xP} {F : xF} {z : Nat} {s : Nat} {w : Nat} {fo : Nat} (hs : F (s) = some (.inl (11, [.ref w, .int (nI 0), .int (nI 0), .int (nI 0)]))) (hJ : xJd P fo) : xM P xy_String_isLatin1 [.ref s] F (z) 0 0 (fun r9 F9 z9 => r9 = some (.int (nI 1)) ∧ F9 = F ∧ z9 = z) := by
  refine xM_i .boolean (by decide +kernel) (Nat.le_of_ble_eq_true rfl) (L0 := [some (.ref s)]) rfl rfl fun Θ hC hret => ?_
  refine x_gets hC (v := .int (nI 1)) hJ.1 (x_in (x_of (xtb_5 (List.mem_of_getElem? (i := 213) (by decide +kernel)))) (by decide +kernel)) d_String_isLatin1_0 ?_
  refine x_ifN_eq hC d_String_isLatin1_3 (tgt := 17) (by decide) (by omega) (fun c_3 => ?_) (fun c_3 => ?_)
  · skip
    exact absurd c_3 (by omega)
  · skip
    refine x_aload_n hC d_String_isLatin1_6 rfl rfl ?_
    refine x_getf hC kf_String_15 hs rfl d_String_isLatin1_7 ?_
    refine x_ifN_ne hC d_String_isLatin1_10 (tgt := 17) (by decide) (by omega) (fun c_10 => ?_) (fun c_10 => ?_)
    · skip
      exact absurd c_10 (by omega)
    · skip
      refine x_iconst hC d_String_isLatin1_13 (v := nI 1) (by decide) ?_
      refine x_goto hC d_String_isLatin1_14 (tgt := 18) (by decide) ?_
      exact hret _ _ _ _ _ _ _ d_String_isLatin1_18 (by decide) (by decide) rfl (⟨rfl, rfl, rfl⟩)

set_option maxHeartbeats 4000000 in
set_option maxRecDepth 20000 in
theorem c_String_lengthJ {P : xP} {F : xF} {z : Nat} {s : Nat} {w : Nat} {n : Nat} {u : Nat → Nat} {fo : Nat} (hs : F (s) = some (.inl (11, [.ref w, .int (nI 0), .int (nI 0), .int (nI 0)]))) (hw : F (w) = some (.inr (2, n, fun b9 => .int (nI (u b9))))) (hJ : xJd P fo) (hn : n ≤ 9000) : xM P xy_String_length [.ref s] F (z) 0 0 (fun r9 F9 z9 => r9 = some (.int (nI (n))) ∧ F9 = F ∧ z9 = z) := by
  refine xM_i .int (by decide +kernel) (Nat.le_of_ble_eq_true rfl) (L0 := [some (.ref s)]) rfl rfl fun Θ hC hret => ?_
  refine x_aload_n hC d_String_length_0 rfl rfl ?_
  refine x_getf hC kf_String_9 hs rfl d_String_length_1 ?_
  refine x_alen hC hw (by decide) rfl d_String_length_4 ?_
  refine x_aload_n hC d_String_length_5 rfl rfl ?_
  refine x_callV hC kv_String_335 (c_String_coderJ (hs := hs) (hJ := hJ) (fo := fo)) hs rfl rfl (by decide) rfl rfl rfl (Nat.le_of_ble_eq_true rfl) (by decide) d_String_length_6 (fun r9 F9 z9 hp9 => ?_)
  obtain ⟨rfl, h9b, h9c⟩ := hp9
  rw [h9b, h9c]
  clear h9b h9c F9 z9
  refine x_ishr hC d_String_length_9 (v := (nI (n))) (x_shrN 0 (by decide) (by omega) (by omega)) ?_
  exact hret _ _ _ _ _ _ _ d_String_length_10 (by decide) (by decide) rfl (⟨rfl, rfl, rfl⟩)

theorem d_String_getBytes_0 : decode prog_33_method_147_code 0 = .ok (.aload_n 0, 1) := by decide +kernel
theorem d_String_getBytes_1 : decode prog_33_method_147_code 1 = .ok (.invokevirtual 335, 3) := by decide +kernel
theorem d_String_getBytes_4 : decode prog_33_method_147_code 4 = .ok (.iload_n 3, 1) := by decide +kernel
theorem d_String_getBytes_5 : decode prog_33_method_147_code 5 = .ok (.if_icmp .ne 23, 3) := by decide +kernel
theorem d_String_getBytes_8 : decode prog_33_method_147_code 8 = .ok (.aload_n 0, 1) := by decide +kernel
theorem d_String_getBytes_9 : decode prog_33_method_147_code 9 = .ok (.getfield 9, 3) := by decide +kernel
theorem d_String_getBytes_12 : decode prog_33_method_147_code 12 = .ok (.iconst 0, 1) := by decide +kernel
theorem d_String_getBytes_13 : decode prog_33_method_147_code 13 = .ok (.aload_n 1, 1) := by decide +kernel
theorem d_String_getBytes_14 : decode prog_33_method_147_code 14 = .ok (.iload_n 2, 1) := by decide +kernel
theorem d_String_getBytes_15 : decode prog_33_method_147_code 15 = .ok (.iload_n 3, 1) := by decide +kernel
theorem d_String_getBytes_16 : decode prog_33_method_147_code 16 = .ok (.ishl, 1) := by decide +kernel
theorem d_String_getBytes_17 : decode prog_33_method_147_code 17 = .ok (.aload_n 0, 1) := by decide +kernel
theorem d_String_getBytes_18 : decode prog_33_method_147_code 18 = .ok (.getfield 9, 3) := by decide +kernel
theorem d_String_getBytes_21 : decode prog_33_method_147_code 21 = .ok (.arraylength, 1) := by decide +kernel
theorem d_String_getBytes_22 : decode prog_33_method_147_code 22 = .ok (.invokestatic 212, 3) := by decide +kernel
theorem d_String_getBytes_25 : decode prog_33_method_147_code 25 = .ok (.goto 18, 3) := by decide +kernel
theorem d_String_getBytes_28 : decode prog_33_method_147_code 28 = .ok (.aload_n 0, 1) := by decide +kernel
theorem d_String_getBytes_29 : decode prog_33_method_147_code 29 = .ok (.getfield 9, 3) := by decide +kernel
theorem d_String_getBytes_32 : decode prog_33_method_147_code 32 = .ok (.iconst 0, 1) := by decide +kernel
theorem d_String_getBytes_33 : decode prog_33_method_147_code 33 = .ok (.aload_n 1, 1) := by decide +kernel
theorem d_String_getBytes_34 : decode prog_33_method_147_code 34 = .ok (.iload_n 2, 1) := by decide +kernel
theorem d_String_getBytes_35 : decode prog_33_method_147_code 35 = .ok (.aload_n 0, 1) := by decide +kernel
theorem d_String_getBytes_36 : decode prog_33_method_147_code 36 = .ok (.getfield 9, 3) := by decide +kernel
theorem d_String_getBytes_39 : decode prog_33_method_147_code 39 = .ok (.arraylength, 1) := by decide +kernel
theorem d_String_getBytes_40 : decode prog_33_method_147_code 40 = .ok (.invokestatic 106, 3) := by decide +kernel
theorem d_String_getBytes_43 : decode prog_33_method_147_code 43 = .ok (.return_, 1) := by decide +kernel
set_option maxHeartbeats 4000000 in
set_option maxRecDepth 20000 in
theorem c_String_getBytesJ {P : xP} {F : xF} {z : Nat} {s : Nat} {w : Nat} {n : Nat} {u : Nat → Nat} {d : Nat} {i : Nat} {K : Nat} {g : Nat → Nat} {fo : Nat} (hs : F (s) = some (.inl (11, [.ref w, .int (nI 0), .int (nI 0), .int (nI 0)]))) (hw : F (w) = some (.inr (2, n, fun b9 => .int (nI (u b9))))) (hd : F (d) = some (.inr (2, K, fun b9 => .int (nI (g b9))))) (hJ : xJd P fo) (h1 : i + n ≤ K ∧ K ≤ 9000) (hu : ∀ j, j < n → u j < 128) (hsd : s ≠ d ∧ w ≠ d) : xM P xy_String_getBytes [.ref s, .ref d, .int (nI (i)), .int (nI 0)] F (z) 0 0 (fun r9 F9 z9 => ∃ g1 : Nat → Nat, r9 = none ∧ z9 = z ∧ F9 (d) = some (.inr (2, K, fun b9 => .int (nI (g1 b9)))) ∧ (va_cpy u g 0 i n = g1) ∧ (∀ a9 : Nat, (a9 < d ∨ d + 1 ≤ a9) → F9 a9 = F a9)) := by
  refine xM_v (by decide +kernel) (Nat.le_of_ble_eq_true rfl) (L0 := [some (.ref s), some (.ref d), some (.int (nI (i))), some (.int (nI 0))]) rfl rfl fun Θ hC hin hret => ?_
  have hag : ∀ a9 : Nat, (a9 < d ∨ d + 1 ≤ a9) → F a9 = F a9 := fun a9 _ => rfl
  refine x_aload_n hC d_String_getBytes_0 rfl rfl ?_
  refine x_callV hC kv_String_335 (c_String_coderJ (hs := hs) (hJ := hJ) (fo := fo)) hs rfl rfl (by decide) rfl rfl rfl (Nat.le_of_ble_eq_true rfl) (by decide) d_String_getBytes_1 (fun r9 F9 z9 hp9 => ?_)
  obtain ⟨rfl, h9b, h9c⟩ := hp9
  rw [h9b, h9c]
  clear h9b h9c F9 z9
  refine x_iload_n hC d_String_getBytes_4 rfl rfl ?_
  refine x_icmpN_ne hC d_String_getBytes_5 (tgt := 28) (by decide) (by omega) (by omega) (fun c_5 => ?_) (fun c_5 => ?_)
  · skip
    exact absurd c_5 (by omega)
  · skip
    refine x_aload_n hC d_String_getBytes_8 rfl rfl ?_
    refine x_getf hC kf_String_9 hs rfl d_String_getBytes_9 ?_
    refine x_iconst hC d_String_getBytes_12 (v := nI 0) (by decide) ?_
    refine x_aload_n hC d_String_getBytes_13 rfl rfl ?_
    refine x_iload_n hC d_String_getBytes_14 rfl rfl ?_
    refine x_iload_n hC d_String_getBytes_15 rfl rfl ?_
    refine x_ishl hC d_String_getBytes_16 (v := (nI (i))) (x_shlN 0 (by decide) (by omega) (by omega)) ?_
    refine x_aload_n hC d_String_getBytes_17 rfl rfl ?_
    refine x_getf hC kf_String_9 hs rfl d_String_getBytes_18 ?_
    refine x_alen hC hw (by decide) rfl d_String_getBytes_21 ?_
    refine x_copyN hC kac_String_212 (sp := 0) (dp := i) (m := n) hw hd (by omega) (by omega) (by omega) (by omega) (by omega) (fun j hj => by rw [Nat.zero_add]; exact hu j hj) rfl (by decide) (Nat.le_of_ble_eq_true rfl) d_String_getBytes_22 ?_
    generalize eg1 : va_cpy u g (0) (i) (n) = g1
    generalize e2 : xup F (d) (.inr (2, K, fun b9 => .int (nI (g1 b9)))) = F2
    have hs : F2 (s) = some (.inl (11, [.ref w, .int (nI 0), .int (nI 0), .int (nI 0)])) := by rw [← e2]; exact (xup_ne (by omega)).trans hs
    have hw : F2 (w) = some (.inr (2, n, fun b9 => .int (nI (u b9)))) := by rw [← e2]; exact (xup_ne (by omega)).trans hw
    have hd : F2 (d) = some (.inr (2, K, fun b9 => .int (nI (g1 b9)))) := by rw [← e2]; exact xup_eq
    have hag : ∀ a9 : Nat, (a9 < d ∨ d + 1 ≤ a9) → F2 a9 = F a9 := fun a9 q0 => by rw [← e2]; exact (xup_ne (by omega)).trans (hag a9 q0)
    refine x_goto hC d_String_getBytes_25 (tgt := 43) (by decide) ?_
    exact hret _ _ _ _ _ _ d_String_getBytes_43 (by decide) (by decide) (⟨g1, rfl, rfl, hd, eg1, hag⟩)

set_option maxHeartbeats 4000000 in
set_option maxRecDepth 20000 in
theorem c_String_getBytesO {P : xP} {F : xF} {z : Nat} {t : Nat} {vb : Nat} {fo : Nat} {n : Nat} {g : Nat → Nat} {d : Nat} {i : Nat} {K : Nat} {gk : Nat → Nat} (hd : F (d) = some (.inr (2, K, fun b9 => .int (nI (gk b9))))) (hS : xStr P t vb fo n g) (h1 : i + n ≤ K ∧ K ≤ 9000) : xM P xy_String_getBytes [.ref t, .ref d, .int (nI (i)), .int (nI 0)] F (z) 0 0 (fun r9 F9 z9 => ∃ gd : Nat → Nat, r9 = none ∧ z9 = z ∧ F9 (d) = some (.inr (2, K, fun b9 => .int (nI (gd b9)))) ∧ (va_cpy g gk 0 i n = gd) ∧ (∀ a9 : Nat, (a9 < d ∨ d + 1 ≤ a9) → F9 a9 = F a9)) := by
  refine xM_v (by decide +kernel) (Nat.le_of_ble_eq_true rfl) (L0 := [some (.ref t), some (.ref d), some (.int (nI (i))), some (.int (nI 0))]) rfl rfl fun Θ hC hin hret => ?_
  have hag : ∀ a9 : Nat, (a9 < d ∨ d + 1 ≤ a9) → F a9 = F a9 := fun a9 _ => rfl
  have hn9 := hS.2.2.2.2.2.2.1
  refine x_aload_n hC d_String_getBytes_0 rfl rfl ?_
  refine x_callVS hC kv_String_335 (c_String_coder (hS := hS) (vb := vb) (fo := fo) (n := n) (g := g)) hS.1 rfl (by decide) rfl rfl rfl (Nat.le_of_ble_eq_true rfl) (by decide) d_String_getBytes_1 (fun r9 F9 z9 hp9 => ?_)
  obtain ⟨rfl, h9b, h9c⟩ := hp9
  rw [h9b, h9c]
  clear h9b h9c F9 z9
  refine x_iload_n hC d_String_getBytes_4 rfl rfl ?_
  refine x_icmpN_ne hC d_String_getBytes_5 (tgt := 28) (by decide) (by omega) (by omega) (fun c_5 => ?_) (fun c_5 => ?_)
  · skip
    exact absurd c_5 (by omega)
  · skip
    refine x_aload_n hC d_String_getBytes_8 rfl rfl ?_
    refine x_getS hC (v := .ref vb) hS.2.1 (x_in (x_of (xtb_7 (List.mem_of_getElem? (i := 111) (by decide +kernel)))) (by decide +kernel)) d_String_getBytes_9 ?_
    refine x_iconst hC d_String_getBytes_12 (v := nI 0) (by decide) ?_
    refine x_aload_n hC d_String_getBytes_13 rfl rfl ?_
    refine x_iload_n hC d_String_getBytes_14 rfl rfl ?_
    refine x_iload_n hC d_String_getBytes_15 rfl rfl ?_
    refine x_ishl hC d_String_getBytes_16 (v := (nI (i))) (x_shlN 0 (by decide) (by omega) (by omega)) ?_
    refine x_aload_n hC d_String_getBytes_17 rfl rfl ?_
    refine x_getS hC (v := .ref vb) hS.2.1 (x_in (x_of (xtb_7 (List.mem_of_getElem? (i := 111) (by decide +kernel)))) (by decide +kernel)) d_String_getBytes_18 ?_
    refine x_stlen hC hS.2.2.2.2.1 (v := (nI (n))) rfl d_String_getBytes_21 ?_
    refine x_copyO hC kac_String_212 (sp := 0) (dp := i) (m := n) hS.2.2.2.2.1 hd (by omega) (by omega) (by omega) (by omega) (by omega) (fun j hj => by rw [Nat.zero_add]; exact hS.2.2.2.2.2.2.2 j hj) rfl (by decide) (Nat.le_of_ble_eq_true rfl) d_String_getBytes_22 ?_
    generalize egd : va_cpy g gk (0) (i) (n) = gd
    generalize e2 : xup F (d) (.inr (2, K, fun b9 => .int (nI (gd b9)))) = F2
    have hd : F2 (d) = some (.inr (2, K, fun b9 => .int (nI (gd b9)))) := by rw [← e2]; exact xup_eq
    have hag : ∀ a9 : Nat, (a9 < d ∨ d + 1 ≤ a9) → F2 a9 = F a9 := fun a9 q0 => by rw [← e2]; exact (xup_ne (by omega)).trans (hag a9 q0)
    refine x_goto hC d_String_getBytes_25 (tgt := 43) (by decide) ?_
    exact hret _ _ _ _ _ _ d_String_getBytes_43 (by decide) (by decide) (⟨gd, rfl, rfl, hd, egd, hag⟩)

theorem d_AbstractStringBuilder_inflateIfNeededFor_0 : decode prog_16_method_71_code 0 = .ok (.getstatic 18, 3) := by decide +kernel
theorem d_AbstractStringBuilder_inflateIfNeededFor_3 : decode prog_16_method_71_code 3 = .ok (.ifCond .eq 18, 3) := by decide +kernel
theorem d_AbstractStringBuilder_inflateIfNeededFor_6 : decode prog_16_method_71_code 6 = .ok (.aload_n 0, 1) := by decide +kernel
theorem d_AbstractStringBuilder_inflateIfNeededFor_7 : decode prog_16_method_71_code 7 = .ok (.getfield 22, 3) := by decide +kernel
theorem d_AbstractStringBuilder_inflateIfNeededFor_10 : decode prog_16_method_71_code 10 = .ok (.aload_n 1, 1) := by decide +kernel
theorem d_AbstractStringBuilder_inflateIfNeededFor_11 : decode prog_16_method_71_code 11 = .ok (.invokevirtual 40, 3) := by decide +kernel
theorem d_AbstractStringBuilder_inflateIfNeededFor_14 : decode prog_16_method_71_code 14 = .ok (.if_icmp .eq 7, 3) := by decide +kernel
theorem d_AbstractStringBuilder_inflateIfNeededFor_17 : decode prog_16_method_71_code 17 = .ok (.aload_n 0, 1) := by decide +kernel
theorem d_AbstractStringBuilder_inflateIfNeededFor_18 : decode prog_16_method_71_code 18 = .ok (.invokevirtual 195, 3) := by decide +kernel
theorem d_AbstractStringBuilder_inflateIfNeededFor_21 : decode prog_16_method_71_code 21 = .ok (.return_, 1) := by decide +kernel
set_option maxHeartbeats 4000000 in
set_option maxRecDepth 20000 in
theorem c_AbstractStringBuilder_inflateIfNeededForJ {P : xP} {F : xF} {z : Nat} {b : Nat} {v : Nat} {c : Nat} {fo : Nat} {s : Nat} {w : Nat} (hb : F (b) = some (.inl (10, [.ref v, .int (nI 0), .int (nI 0), .int (nI (c))]))) (hs : F (s) = some (.inl (11, [.ref w, .int (nI 0), .int (nI 0), .int (nI 0)]))) (hJ : xJd P fo) : xM P xy_AbstractStringBuilder_inflateIfNeededFor [.ref b, .ref s] F (z) 0 0 (fun r9 F9 z9 => r9 = none ∧ F9 = F ∧ z9 = z) := by
  refine xM_v (by decide +kernel) (Nat.le_of_ble_eq_true rfl) (L0 := [some (.ref b), some (.ref s)]) rfl rfl fun Θ hC hin hret => ?_
  refine x_gets hC (v := .int (nI 1)) hJ.1 (x_in (x_of (xtb_6 (List.mem_of_getElem? (i := 142) (by decide +kernel)))) (by decide +kernel)) d_AbstractStringBuilder_inflateIfNeededFor_0 ?_
  refine x_ifN_eq hC d_AbstractStringBuilder_inflateIfNeededFor_3 (tgt := 21) (by decide) (by omega) (fun c_3 => ?_) (fun c_3 => ?_)
  · skip
    exact absurd c_3 (by omega)
  · skip
    refine x_aload_n hC d_AbstractStringBuilder_inflateIfNeededFor_6 rfl rfl ?_
    refine x_getf hC kf_AbstractStringBuilder_22 hb rfl d_AbstractStringBuilder_inflateIfNeededFor_7 ?_
    refine x_aload_n hC d_AbstractStringBuilder_inflateIfNeededFor_10 rfl rfl ?_
    refine x_callV hC kv_AbstractStringBuilder_40 (c_String_coderJ (hs := hs) (hJ := hJ) (fo := fo)) hs rfl rfl (by decide) rfl rfl rfl (Nat.le_of_ble_eq_true rfl) (by decide) d_AbstractStringBuilder_inflateIfNeededFor_11 (fun r9 F9 z9 hp9 => ?_)
    obtain ⟨rfl, h9b, h9c⟩ := hp9
    rw [h9b, h9c]
    clear h9b h9c F9 z9
    refine x_icmpN_eq hC d_AbstractStringBuilder_inflateIfNeededFor_14 (tgt := 21) (by decide) (by omega) (by omega) (fun c_14 => ?_) (fun c_14 => ?_)
    · skip
      exact hret _ _ _ _ _ _ d_AbstractStringBuilder_inflateIfNeededFor_21 (by decide) (by decide) (⟨rfl, rfl, rfl⟩)
    · skip
      exact absurd c_14 (by omega)

set_option maxHeartbeats 4000000 in
set_option maxRecDepth 20000 in
theorem c_AbstractStringBuilder_inflateIfNeededForO {P : xP} {F : xF} {z : Nat} {b : Nat} {v : Nat} {c : Nat} {t : Nat} {vb : Nat} {fo : Nat} {n : Nat} {g : Nat → Nat} (hb : F (b) = some (.inl (10, [.ref v, .int (nI 0), .int (nI 0), .int (nI (c))]))) (hS : xStr P t vb fo n g) : xM P xy_AbstractStringBuilder_inflateIfNeededFor [.ref b, .ref t] F (z) 0 0 (fun r9 F9 z9 => r9 = none ∧ F9 = F ∧ z9 = z) := by
  refine xM_v (by decide +kernel) (Nat.le_of_ble_eq_true rfl) (L0 := [some (.ref b), some (.ref t)]) rfl rfl fun Θ hC hin hret => ?_
  refine x_gets hC (v := .int (nI 1)) hS.2.2.2.1 (x_in (x_of (xtb_6 (List.mem_of_getElem? (i := 142) (by decide +kernel)))) (by decide +kernel)) d_AbstractStringBuilder_inflateIfNeededFor_0 ?_
  refine x_ifN_eq hC d_AbstractStringBuilder_inflateIfNeededFor_3 (tgt := 21) (by decide) (by omega) (fun c_3 => ?_) (fun c_3 => ?_)
  · skip
    exact absurd c_3 (by omega)
  · skip
    refine x_aload_n hC d_AbstractStringBuilder_inflateIfNeededFor_6 rfl rfl ?_
    refine x_getf hC kf_AbstractStringBuilder_22 hb rfl d_AbstractStringBuilder_inflateIfNeededFor_7 ?_
    refine x_aload_n hC d_AbstractStringBuilder_inflateIfNeededFor_10 rfl rfl ?_
    refine x_callVS hC kv_AbstractStringBuilder_40 (c_String_coder (hS := hS) (vb := vb) (fo := fo) (n := n) (g := g)) hS.1 rfl (by decide) rfl rfl rfl (Nat.le_of_ble_eq_true rfl) (by decide) d_AbstractStringBuilder_inflateIfNeededFor_11 (fun r9 F9 z9 hp9 => ?_)
    obtain ⟨rfl, h9b, h9c⟩ := hp9
    rw [h9b, h9c]
    clear h9b h9c F9 z9
    refine x_icmpN_eq hC d_AbstractStringBuilder_inflateIfNeededFor_14 (tgt := 21) (by decide) (by omega) (by omega) (fun c_14 => ?_) (fun c_14 => ?_)
    · skip
      exact hret _ _ _ _ _ _ d_AbstractStringBuilder_inflateIfNeededFor_21 (by decide) (by decide) (⟨rfl, rfl, rfl⟩)
    · skip
      exact absurd c_14 (by omega)

theorem d_AbstractStringBuilder_putStringAt_0 : decode prog_16_method_73_code 0 = .ok (.aload_n 0, 1) := by decide +kernel
theorem d_AbstractStringBuilder_putStringAt_1 : decode prog_16_method_73_code 1 = .ok (.aload_n 2, 1) := by decide +kernel
theorem d_AbstractStringBuilder_putStringAt_2 : decode prog_16_method_73_code 2 = .ok (.invokevirtual 397, 3) := by decide +kernel
theorem d_AbstractStringBuilder_putStringAt_5 : decode prog_16_method_73_code 5 = .ok (.aload_n 2, 1) := by decide +kernel
theorem d_AbstractStringBuilder_putStringAt_6 : decode prog_16_method_73_code 6 = .ok (.aload_n 0, 1) := by decide +kernel
theorem d_AbstractStringBuilder_putStringAt_7 : decode prog_16_method_73_code 7 = .ok (.getfield 15, 3) := by decide +kernel
theorem d_AbstractStringBuilder_putStringAt_10 : decode prog_16_method_73_code 10 = .ok (.iload_n 1, 1) := by decide +kernel
theorem d_AbstractStringBuilder_putStringAt_11 : decode prog_16_method_73_code 11 = .ok (.aload_n 0, 1) := by decide +kernel
theorem d_AbstractStringBuilder_putStringAt_12 : decode prog_16_method_73_code 12 = .ok (.getfield 22, 3) := by decide +kernel
theorem d_AbstractStringBuilder_putStringAt_15 : decode prog_16_method_73_code 15 = .ok (.invokevirtual 399, 3) := by decide +kernel
theorem d_AbstractStringBuilder_putStringAt_18 : decode prog_16_method_73_code 18 = .ok (.return_, 1) := by decide +kernel
set_option maxHeartbeats 4000000 in
set_option maxRecDepth 20000 in
theorem c_AbstractStringBuilder_putStringAtJ {P : xP} {F : xF} {z : Nat} {b : Nat} {v : Nat} {c : Nat} {fo : Nat} {K : Nat} {g : Nat → Nat} {i : Nat} {s : Nat} {w : Nat} {n : Nat} {u : Nat → Nat} (hb : F (b) = some (.inl (10, [.ref v, .int (nI 0), .int (nI 0), .int (nI (c))]))) (hv : F (v) = some (.inr (2, K, fun b9 => .int (nI (g b9))))) (hs : F (s) = some (.inl (11, [.ref w, .int (nI 0), .int (nI 0), .int (nI 0)]))) (hw : F (w) = some (.inr (2, n, fun b9 => .int (nI (u b9))))) (hJ : xJd P fo) (h1 : i + n ≤ K ∧ K ≤ 9000) (hu : ∀ j, j < n → u j < 128) (hsd : s ≠ v ∧ w ≠ v ∧ b ≠ v) : xM P xy_AbstractStringBuilder_putStringAt [.ref b, .int (nI (i)), .ref s] F (z) 0 0 (fun r9 F9 z9 => ∃ g1 : Nat → Nat, r9 = none ∧ z9 = z ∧ F9 (v) = some (.inr (2, K, fun b9 => .int (nI (g1 b9)))) ∧ (va_cpy u g 0 i n = g1) ∧ (∀ a9 : Nat, (a9 < v ∨ v + 1 ≤ a9) → F9 a9 = F a9)) := by
  refine xM_v (by decide +kernel) (Nat.le_of_ble_eq_true rfl) (L0 := [some (.ref b), some (.int (nI (i))), some (.ref s)]) rfl rfl fun Θ hC hin hret => ?_
  have hag : ∀ a9 : Nat, (a9 < v ∨ v + 1 ≤ a9) → F a9 = F a9 := fun a9 _ => rfl
  refine x_aload_n hC d_AbstractStringBuilder_putStringAt_0 rfl rfl ?_
  refine x_aload_n hC d_AbstractStringBuilder_putStringAt_1 rfl rfl ?_
  refine x_callU hC ku_AbstractStringBuilder_397 (c_AbstractStringBuilder_inflateIfNeededForJ (hb := hb) (hs := hs) (hJ := hJ) (fo := fo)) hb rfl (by decide) rfl rfl rfl (Nat.le_of_ble_eq_true rfl) (by decide) d_AbstractStringBuilder_putStringAt_2 (fun r9 F9 z9 hp9 => ?_)
  obtain ⟨rfl, h9b, h9c⟩ := hp9
  rw [h9b, h9c]
  clear h9b h9c F9 z9
  refine x_aload_n hC d_AbstractStringBuilder_putStringAt_5 rfl rfl ?_
  refine x_aload_n hC d_AbstractStringBuilder_putStringAt_6 rfl rfl ?_
  refine x_getf hC kf_AbstractStringBuilder_15 hb rfl d_AbstractStringBuilder_putStringAt_7 ?_
  refine x_iload_n hC d_AbstractStringBuilder_putStringAt_10 rfl rfl ?_
  refine x_aload_n hC d_AbstractStringBuilder_putStringAt_11 rfl rfl ?_
  refine x_getf hC kf_AbstractStringBuilder_22 hb rfl d_AbstractStringBuilder_putStringAt_12 ?_
  refine x_callV hC kv_AbstractStringBuilder_399 (c_String_getBytesJ (hs := hs) (hw := hw) (hd := hv) (hJ := hJ) (h1 := by omega) (hu := hu) (hsd := by omega) (fo := fo)) hs rfl rfl (by decide) rfl rfl rfl (Nat.le_of_ble_eq_true rfl) (by decide) d_AbstractStringBuilder_putStringAt_15 (fun r9 F9 z9 hp9 => ?_)
  obtain ⟨g1, rfl, h9c, j0, pk_15, hag9⟩ := hp9
  rw [h9c]
  clear h9c z9
  generalize F9 = F1 at *
  have hb : F1 (b) = some (.inl (10, [.ref v, .int (nI 0), .int (nI 0), .int (nI (c))])) := (hag9 _ (by omega)).trans hb
  have hs : F1 (s) = some (.inl (11, [.ref w, .int (nI 0), .int (nI 0), .int (nI 0)])) := (hag9 _ (by omega)).trans hs
  have hw : F1 (w) = some (.inr (2, n, fun b9 => .int (nI (u b9)))) := (hag9 _ (by omega)).trans hw
  have hv : F1 (v) = some (.inr (2, K, fun b9 => .int (nI (g1 b9)))) := j0
  have hag : ∀ a9 : Nat, (a9 < v ∨ v + 1 ≤ a9) → F1 a9 = F a9 := fun a9 q0 => (hag9 a9 (by omega)).trans (hag a9 q0)
  have hg_15 := hag9
  clear hag9
  exact hret _ _ _ _ _ _ d_AbstractStringBuilder_putStringAt_18 (by decide) (by decide) (⟨g1, rfl, rfl, hv, pk_15, hag⟩)

set_option maxHeartbeats 4000000 in
set_option maxRecDepth 20000 in
theorem c_AbstractStringBuilder_putStringAtO {P : xP} {F : xF} {z : Nat} {b : Nat} {v : Nat} {c : Nat} {K : Nat} {gk : Nat → Nat} {i : Nat} {t : Nat} {vb : Nat} {fo : Nat} {n : Nat} {g : Nat → Nat} (hb : F (b) = some (.inl (10, [.ref v, .int (nI 0), .int (nI 0), .int (nI (c))]))) (hv : F (v) = some (.inr (2, K, fun b9 => .int (nI (gk b9))))) (hS : xStr P t vb fo n g) (h1 : i + n ≤ K ∧ K ≤ 9000) (hsd : b ≠ v) : xM P xy_AbstractStringBuilder_putStringAt [.ref b, .int (nI (i)), .ref t] F (z) 0 0 (fun r9 F9 z9 => ∃ gd : Nat → Nat, r9 = none ∧ z9 = z ∧ F9 (v) = some (.inr (2, K, fun b9 => .int (nI (gd b9)))) ∧ (va_cpy g gk 0 i n = gd) ∧ (∀ a9 : Nat, (a9 < v ∨ v + 1 ≤ a9) → F9 a9 = F a9)) := by
  refine xM_v (by decide +kernel) (Nat.le_of_ble_eq_true rfl) (L0 := [some (.ref b), some (.int (nI (i))), some (.ref t)]) rfl rfl fun Θ hC hin hret => ?_
  have hag : ∀ a9 : Nat, (a9 < v ∨ v + 1 ≤ a9) → F a9 = F a9 := fun a9 _ => rfl
  refine x_aload_n hC d_AbstractStringBuilder_putStringAt_0 rfl rfl ?_
  refine x_aload_n hC d_AbstractStringBuilder_putStringAt_1 rfl rfl ?_
  refine x_callU hC ku_AbstractStringBuilder_397 (c_AbstractStringBuilder_inflateIfNeededForO (hb := hb) (hS := hS) (vb := vb) (fo := fo) (n := n) (g := g)) hb rfl (by decide) rfl rfl rfl (Nat.le_of_ble_eq_true rfl) (by decide) d_AbstractStringBuilder_putStringAt_2 (fun r9 F9 z9 hp9 => ?_)
  obtain ⟨rfl, h9b, h9c⟩ := hp9
  rw [h9b, h9c]
  clear h9b h9c F9 z9
  refine x_aload_n hC d_AbstractStringBuilder_putStringAt_5 rfl rfl ?_
  refine x_aload_n hC d_AbstractStringBuilder_putStringAt_6 rfl rfl ?_
  refine x_getf hC kf_AbstractStringBuilder_15 hb rfl d_AbstractStringBuilder_putStringAt_7 ?_
  refine x_iload_n hC d_AbstractStringBuilder_putStringAt_10 rfl rfl ?_
  refine x_aload_n hC d_AbstractStringBuilder_putStringAt_11 rfl rfl ?_
  refine x_getf hC kf_AbstractStringBuilder_22 hb rfl d_AbstractStringBuilder_putStringAt_12 ?_
  refine x_callVS hC kv_AbstractStringBuilder_399 (c_String_getBytesO (hd := hv) (hS := hS) (h1 := by omega) (vb := vb) (fo := fo) (n := n) (g := g)) hS.1 rfl (by decide) rfl rfl rfl (Nat.le_of_ble_eq_true rfl) (by decide) d_AbstractStringBuilder_putStringAt_15 (fun r9 F9 z9 hp9 => ?_)
  obtain ⟨gd, rfl, h9c, j0, pk_15, hag9⟩ := hp9
  rw [h9c]
  clear h9c z9
  generalize F9 = F1 at *
  have hb : F1 (b) = some (.inl (10, [.ref v, .int (nI 0), .int (nI 0), .int (nI (c))])) := (hag9 _ (by omega)).trans hb
  have hv : F1 (v) = some (.inr (2, K, fun b9 => .int (nI (gd b9)))) := j0
  have hag : ∀ a9 : Nat, (a9 < v ∨ v + 1 ≤ a9) → F1 a9 = F a9 := fun a9 q0 => (hag9 a9 (by omega)).trans (hag a9 q0)
  have hg_15 := hag9
  clear hag9
  exact hret _ _ _ _ _ _ d_AbstractStringBuilder_putStringAt_18 (by decide) (by decide) (⟨gd, rfl, rfl, hv, pk_15, hag⟩)

theorem d_AbstractStringBuilder_append_String_0 : decode prog_16_method_22_code 0 = .ok (.aload_n 1, 1) := by decide +kernel
theorem d_AbstractStringBuilder_append_String_1 : decode prog_16_method_22_code 1 = .ok (.ifnonnull 8, 3) := by decide +kernel
theorem d_AbstractStringBuilder_append_String_4 : decode prog_16_method_22_code 4 = .ok (.aload_n 0, 1) := by decide +kernel
theorem d_AbstractStringBuilder_append_String_5 : decode prog_16_method_22_code 5 = .ok (.invokevirtual 204, 3) := by decide +kernel
theorem d_AbstractStringBuilder_append_String_8 : decode prog_16_method_22_code 8 = .ok (.areturn, 1) := by decide +kernel
theorem d_AbstractStringBuilder_append_String_9 : decode prog_16_method_22_code 9 = .ok (.aload_n 1, 1) := by decide +kernel
theorem d_AbstractStringBuilder_append_String_10 : decode prog_16_method_22_code 10 = .ok (.invokevirtual 32, 3) := by decide +kernel
theorem d_AbstractStringBuilder_append_String_13 : decode prog_16_method_22_code 13 = .ok (.istore_n 2, 1) := by decide +kernel
theorem d_AbstractStringBuilder_append_String_14 : decode prog_16_method_22_code 14 = .ok (.aload_n 0, 1) := by decide +kernel
theorem d_AbstractStringBuilder_append_String_15 : decode prog_16_method_22_code 15 = .ok (.aload_n 0, 1) := by decide +kernel
theorem d_AbstractStringBuilder_append_String_16 : decode prog_16_method_22_code 16 = .ok (.getfield 79, 3) := by decide +kernel
theorem d_AbstractStringBuilder_append_String_19 : decode prog_16_method_22_code 19 = .ok (.iload_n 2, 1) := by decide +kernel
theorem d_AbstractStringBuilder_append_String_20 : decode prog_16_method_22_code 20 = .ok (.iadd, 1) := by decide +kernel
theorem d_AbstractStringBuilder_append_String_21 : decode prog_16_method_22_code 21 = .ok (.invokevirtual 100, 3) := by decide +kernel
theorem d_AbstractStringBuilder_append_String_24 : decode prog_16_method_22_code 24 = .ok (.aload_n 0, 1) := by decide +kernel
theorem d_AbstractStringBuilder_append_String_25 : decode prog_16_method_22_code 25 = .ok (.aload_n 0, 1) := by decide +kernel
theorem d_AbstractStringBuilder_append_String_26 : decode prog_16_method_22_code 26 = .ok (.getfield 79, 3) := by decide +kernel
theorem d_AbstractStringBuilder_append_String_29 : decode prog_16_method_22_code 29 = .ok (.aload_n 1, 1) := by decide +kernel
theorem d_AbstractStringBuilder_append_String_30 : decode prog_16_method_22_code 30 = .ok (.invokevirtual 208, 3) := by decide +kernel
theorem d_AbstractStringBuilder_append_String_33 : decode prog_16_method_22_code 33 = .ok (.aload_n 0, 1) := by decide +kernel
theorem d_AbstractStringBuilder_append_String_34 : decode prog_16_method_22_code 34 = .ok (.dup, 1) := by decide +kernel
theorem d_AbstractStringBuilder_append_String_35 : decode prog_16_method_22_code 35 = .ok (.getfield 79, 3) := by decide +kernel
theorem d_AbstractStringBuilder_append_String_38 : decode prog_16_method_22_code 38 = .ok (.iload_n 2, 1) := by decide +kernel
theorem d_AbstractStringBuilder_append_String_39 : decode prog_16_method_22_code 39 = .ok (.iadd, 1) := by decide +kernel
theorem d_AbstractStringBuilder_append_String_40 : decode prog_16_method_22_code 40 = .ok (.putfield 79, 3) := by decide +kernel
theorem d_AbstractStringBuilder_append_String_43 : decode prog_16_method_22_code 43 = .ok (.aload_n 0, 1) := by decide +kernel
theorem d_AbstractStringBuilder_append_String_44 : decode prog_16_method_22_code 44 = .ok (.areturn, 1) := by decide +kernel
set_option maxHeartbeats 4000000 in
set_option maxRecDepth 20000 in
theorem c_AbstractStringBuilder_append_StringJ {P : xP} {F : xF} {z : Nat} {b : Nat} {v : Nat} {c : Nat} {fo : Nat} {K : Nat} {g : Nat → Nat} {s : Nat} {w : Nat} {n : Nat} {u : Nat → Nat} (hb : F (b) = some (.inl (10, [.ref v, .int (nI 0), .int (nI 0), .int (nI (c))]))) (hv : F (v) = some (.inr (2, K, fun b9 => .int (nI (g b9))))) (hs : F (s) = some (.inl (11, [.ref w, .int (nI 0), .int (nI 0), .int (nI 0)]))) (hw : F (w) = some (.inr (2, n, fun b9 => .int (nI (u b9))))) (hJ : xJd P fo) (h1 : c ≤ K ∧ K ≤ 450 ∧ c + n ≤ 450) (hg : ∀ j, j < K → g j < 128) (hbv : b ≠ v ∧ b < z ∧ v < z) (hu : ∀ j, j < n → u j < 128) (hsv : (s ≠ b ∧ s ≠ v ∧ s < z) ∧ w ≠ b ∧ w ≠ v ∧ w < z) : xM P xy_AbstractStringBuilder_append_String [.ref b, .ref s] F (z) 1 1000 (fun r9 F9 z9 => ∃ v1 : Nat, ∃ K1 : Nat, ∃ g1 : Nat → Nat, ∃ zz : Nat, r9 = some (.ref b) ∧ z9 = zz ∧ F9 (b) = some (.inl (10, [.ref v1, .int (nI 0), .int (nI 0), .int (nI (c + n))])) ∧ F9 (v1) = some (.inr (2, K1, fun b9 => .int (nI (g1 b9)))) ∧ ((c + n ≤ K1 ∧ K ≤ K1 ∧ (K1 = K ∨ K1 = ncap K (c + n) ∧ K < c + n)) ∧ (∀ j, j < c → g1 j = g j) ∧ (∀ i, i < n → g1 (c + i) = u i) ∧ ∀ j, j < K1 → g1 j < 128) ∧ ((v1 = v ∧ zz = z) ∨ (v1 = z ∧ zz = z + 1)) ∧ (∀ a9 : Nat, (a9 < b ∨ b + 1 ≤ a9) → (a9 < v ∨ v + 1 ≤ a9) → (a9 < z ∨ z + 1 ≤ a9) → F9 a9 = F a9)) := by
  refine xM_a (by decide +kernel) (Nat.le_of_ble_eq_true rfl) (L0 := [some (.ref b), some (.ref s), none]) rfl rfl (by simp) fun Θ hC hret => ?_
  have hag : ∀ a9 : Nat, (a9 < b ∨ b + 1 ≤ a9) → (a9 < v ∨ v + 1 ≤ a9) → (a9 < z ∨ z + 1 ≤ a9) → F a9 = F a9 := fun a9 _ _ _ => rfl
  refine x_aload_n hC d_AbstractStringBuilder_append_String_0 rfl rfl ?_
  refine x_ifnonnull hC d_AbstractStringBuilder_append_String_1 (tgt := 9) (by decide) ?_
  refine x_aload_n hC d_AbstractStringBuilder_append_String_9 rfl rfl ?_
  refine x_callV hC kv_AbstractStringBuilder_32 (c_String_lengthJ (hs := hs) (hw := hw) (hJ := hJ) (hn := by omega) (fo := fo)) hs rfl rfl (by decide) rfl rfl rfl (Nat.le_of_ble_eq_true rfl) (by decide) d_AbstractStringBuilder_append_String_10 (fun r9 F9 z9 hp9 => ?_)
  obtain ⟨rfl, h9b, h9c⟩ := hp9
  rw [h9b, h9c]
  clear h9b h9c F9 z9
  refine x_istore_n hC d_AbstractStringBuilder_append_String_13 rfl (Nat.le_of_ble_eq_true rfl) (L1 := [some (.ref b), some (.ref s), some (.int (nI (n)))]) rfl ?_
  refine x_aload_n hC d_AbstractStringBuilder_append_String_14 rfl rfl ?_
  refine x_aload_n hC d_AbstractStringBuilder_append_String_15 rfl rfl ?_
  refine x_getf hC kf_AbstractStringBuilder_79 hb rfl d_AbstractStringBuilder_append_String_16 ?_
  refine x_iload_n hC d_AbstractStringBuilder_append_String_19 rfl rfl ?_
  refine x_iadd hC d_AbstractStringBuilder_append_String_20 (v := (nI (c + n))) (x_addN (by omega)) ?_
  refine x_callU hC ku_AbstractStringBuilder_100 (c_AbstractStringBuilder_ensureCapacityInternal (hb := hb) (hv := hv) (h1 := by omega) (hg := hg) (hbv := hbv)) hb rfl (by decide) rfl rfl rfl (Nat.le_of_ble_eq_true rfl) (by decide) d_AbstractStringBuilder_append_String_21 (fun r9 F9 z9 hp9 => ?_)
  obtain ⟨v1, K1, ge, zz, rfl, h9c, j0, j1, pk_21, pw_21, hag9⟩ := hp9
  rw [h9c]
  clear h9c z9
  generalize F9 = F1 at *
  have hv : F1 (v) = some (.inr (2, K, fun b9 => .int (nI (g b9)))) := (hag9 _ (by omega) (by omega)).trans hv
  have hs : F1 (s) = some (.inl (11, [.ref w, .int (nI 0), .int (nI 0), .int (nI 0)])) := (hag9 _ (by omega) (by omega)).trans hs
  have hw : F1 (w) = some (.inr (2, n, fun b9 => .int (nI (u b9)))) := (hag9 _ (by omega) (by omega)).trans hw
  have hb : F1 (b) = some (.inl (10, [.ref v1, .int (nI 0), .int (nI 0), .int (nI (c))])) := j0
  have hv1 : F1 (v1) = some (.inr (2, K1, fun b9 => .int (nI (ge b9)))) := j1
  have hag : ∀ a9 : Nat, (a9 < b ∨ b + 1 ≤ a9) → (a9 < v ∨ v + 1 ≤ a9) → (a9 < z ∨ z + 1 ≤ a9) → F1 a9 = F a9 := fun a9 q0 q1 q2 => (hag9 a9 (by omega) (by omega)).trans (hag a9 q0 q1 q2)
  have hg_21 := hag9
  clear hag9
  have hK9 : K1 ≤ 9000 := by rcases pk_21.1.2.2 with e | ⟨e, e2⟩ <;> first | omega | (have := ncap_b e2; omega)
  refine x_aload_n hC d_AbstractStringBuilder_append_String_24 rfl rfl ?_
  refine x_aload_n hC d_AbstractStringBuilder_append_String_25 rfl rfl ?_
  refine x_getf hC kf_AbstractStringBuilder_79 hb rfl d_AbstractStringBuilder_append_String_26 ?_
  refine x_aload_n hC d_AbstractStringBuilder_append_String_29 rfl rfl ?_
  refine x_callU hC ku_AbstractStringBuilder_208 (c_AbstractStringBuilder_putStringAtJ (hb := hb) (hv := hv1) (hs := hs) (hw := hw) (hJ := hJ) (h1 := by omega) (hu := hu) (hsd := by omega) (fo := fo)) hb rfl (by decide) rfl rfl rfl (Nat.le_of_ble_eq_true rfl) (by decide) d_AbstractStringBuilder_append_String_30 (fun r9 F9 z9 hp9 => ?_)
  obtain ⟨g1, rfl, h9c, j0, pk_30, hag9⟩ := hp9
  rw [h9c]
  clear h9c z9
  generalize F9 = F2 at *
  have hs : F2 (s) = some (.inl (11, [.ref w, .int (nI 0), .int (nI 0), .int (nI 0)])) := (hag9 _ (by omega)).trans hs
  have hw : F2 (w) = some (.inr (2, n, fun b9 => .int (nI (u b9)))) := (hag9 _ (by omega)).trans hw
  have hb : F2 (b) = some (.inl (10, [.ref v1, .int (nI 0), .int (nI 0), .int (nI (c))])) := (hag9 _ (by omega)).trans hb
  have hv1 : F2 (v1) = some (.inr (2, K1, fun b9 => .int (nI (g1 b9)))) := j0
  have hag : ∀ a9 : Nat, (a9 < b ∨ b + 1 ≤ a9) → (a9 < v ∨ v + 1 ≤ a9) → (a9 < z ∨ z + 1 ≤ a9) → F2 a9 = F a9 := fun a9 q0 q1 q2 => (hag9 a9 (by omega)).trans (hag a9 q0 q1 q2)
  have hg_30 := hag9
  clear hag9
  refine x_aload_n hC d_AbstractStringBuilder_append_String_33 rfl rfl ?_
  refine x_dup hC d_AbstractStringBuilder_append_String_34 rfl ?_
  refine x_getf hC kf_AbstractStringBuilder_79 hb rfl d_AbstractStringBuilder_append_String_35 ?_
  refine x_iload_n hC d_AbstractStringBuilder_append_String_38 rfl rfl ?_
  refine x_iadd hC d_AbstractStringBuilder_append_String_39 (v := (nI (c + n))) (x_addN (by omega)) ?_
  refine x_putf hC kf_AbstractStringBuilder_79 hb (Nat.le_of_ble_eq_true rfl) rfl rfl d_AbstractStringBuilder_append_String_40 (fs1 := [.ref v1, .int (nI 0), .int (nI 0), .int (nI (c + n))]) rfl ?_
  generalize e3 : xup F2 (b) (.inl (10, [.ref v1, .int (nI 0), .int (nI 0), .int (nI (c + n))])) = F3
  have hs : F3 (s) = some (.inl (11, [.ref w, .int (nI 0), .int (nI 0), .int (nI 0)])) := by rw [← e3]; exact (xup_ne (by omega)).trans hs
  have hw : F3 (w) = some (.inr (2, n, fun b9 => .int (nI (u b9)))) := by rw [← e3]; exact (xup_ne (by omega)).trans hw
  have hb : F3 (b) = some (.inl (10, [.ref v1, .int (nI 0), .int (nI 0), .int (nI (c + n))])) := by rw [← e3]; exact xup_eq
  have hv1 : F3 (v1) = some (.inr (2, K1, fun b9 => .int (nI (g1 b9)))) := by rw [← e3]; exact (xup_ne (by omega)).trans hv1
  have hag : ∀ a9 : Nat, (a9 < b ∨ b + 1 ≤ a9) → (a9 < v ∨ v + 1 ≤ a9) → (a9 < z ∨ z + 1 ≤ a9) → F3 a9 = F a9 := fun a9 q0 q1 q2 => by rw [← e3]; exact (xup_ne (by omega)).trans (hag a9 q0 q1 q2)
  refine x_aload_n hC d_AbstractStringBuilder_append_String_43 rfl rfl ?_
  exact hret _ _ _ _ _ _ _ d_AbstractStringBuilder_append_String_44 (by decide) (by decide) (Or.inr ⟨_, rfl⟩) (⟨v1, K1, g1, zz, rfl, rfl, hb, hv1, ⟨pk_21.1, ⟨fun j hj => by rw [← pk_30, va_cpy, if_neg (by omega)]; exact pk_21.2.1 j (by omega), fun i hi => by rw [← pk_30, va_cpy, if_pos (by omega), Nat.zero_add, show c + i - c = i by omega], fun j hj => (Classical.em (c ≤ j ∧ j < c + n)).elim (fun q => by rw [← pk_30, va_cpy, if_pos q, Nat.zero_add]; exact hu _ (by omega)) (fun q => by rw [← pk_30, va_cpy, if_neg q]; exact pk_21.2.2 j hj)⟩⟩, pw_21, hag⟩)

set_option maxHeartbeats 4000000 in
set_option maxRecDepth 20000 in
theorem c_AbstractStringBuilder_append_StringO {P : xP} {F : xF} {z : Nat} {b : Nat} {v : Nat} {c : Nat} {K : Nat} {gk : Nat → Nat} {t : Nat} {vb : Nat} {fo : Nat} {n : Nat} {g : Nat → Nat} (hb : F (b) = some (.inl (10, [.ref v, .int (nI 0), .int (nI 0), .int (nI (c))]))) (hv : F (v) = some (.inr (2, K, fun b9 => .int (nI (gk b9))))) (hS : xStr P t vb fo n g) (h1 : c ≤ K ∧ K ≤ 450 ∧ c + n ≤ 450) (hg : ∀ j, j < K → gk j < 128) (hbv : b ≠ v ∧ b < z ∧ v < z) : xM P xy_AbstractStringBuilder_append_String [.ref b, .ref t] F (z) 1 1000 (fun r9 F9 z9 => ∃ v1 : Nat, ∃ K1 : Nat, ∃ g1 : Nat → Nat, ∃ zz : Nat, r9 = some (.ref b) ∧ z9 = zz ∧ F9 (b) = some (.inl (10, [.ref v1, .int (nI 0), .int (nI 0), .int (nI (c + n))])) ∧ F9 (v1) = some (.inr (2, K1, fun b9 => .int (nI (g1 b9)))) ∧ ((c + n ≤ K1 ∧ K ≤ K1 ∧ (K1 = K ∨ K1 = ncap K (c + n) ∧ K < c + n)) ∧ (∀ j, j < c → g1 j = gk j) ∧ (∀ i, i < n → g1 (c + i) = g i) ∧ ∀ j, j < K1 → g1 j < 128) ∧ ((v1 = v ∧ zz = z) ∨ (v1 = z ∧ zz = z + 1)) ∧ (∀ a9 : Nat, (a9 < b ∨ b + 1 ≤ a9) → (a9 < v ∨ v + 1 ≤ a9) → (a9 < z ∨ z + 1 ≤ a9) → F9 a9 = F a9)) := by
  refine xM_a (by decide +kernel) (Nat.le_of_ble_eq_true rfl) (L0 := [some (.ref b), some (.ref t), none]) rfl rfl (by simp) fun Θ hC hret => ?_
  have hag : ∀ a9 : Nat, (a9 < b ∨ b + 1 ≤ a9) → (a9 < v ∨ v + 1 ≤ a9) → (a9 < z ∨ z + 1 ≤ a9) → F a9 = F a9 := fun a9 _ _ _ => rfl
  have hn9 := hS.2.2.2.2.2.2.1
  refine x_aload_n hC d_AbstractStringBuilder_append_String_0 rfl rfl ?_
  refine x_ifnonnull hC d_AbstractStringBuilder_append_String_1 (tgt := 9) (by decide) ?_
  refine x_aload_n hC d_AbstractStringBuilder_append_String_9 rfl rfl ?_
  refine x_callVS hC kv_AbstractStringBuilder_32 (c_String_length (hS := hS) (vb := vb) (fo := fo) (n := n) (g := g)) hS.1 rfl (by decide) rfl rfl rfl (Nat.le_of_ble_eq_true rfl) (by decide) d_AbstractStringBuilder_append_String_10 (fun r9 F9 z9 hp9 => ?_)
  obtain ⟨rfl, h9b, h9c⟩ := hp9
  rw [h9b, h9c]
  clear h9b h9c F9 z9
  refine x_istore_n hC d_AbstractStringBuilder_append_String_13 rfl (Nat.le_of_ble_eq_true rfl) (L1 := [some (.ref b), some (.ref t), some (.int (nI (n)))]) rfl ?_
  refine x_aload_n hC d_AbstractStringBuilder_append_String_14 rfl rfl ?_
  refine x_aload_n hC d_AbstractStringBuilder_append_String_15 rfl rfl ?_
  refine x_getf hC kf_AbstractStringBuilder_79 hb rfl d_AbstractStringBuilder_append_String_16 ?_
  refine x_iload_n hC d_AbstractStringBuilder_append_String_19 rfl rfl ?_
  refine x_iadd hC d_AbstractStringBuilder_append_String_20 (v := (nI (c + n))) (x_addN (by omega)) ?_
  refine x_callU hC ku_AbstractStringBuilder_100 (c_AbstractStringBuilder_ensureCapacityInternal (hb := hb) (hv := hv) (h1 := by omega) (hg := hg) (hbv := hbv)) hb rfl (by decide) rfl rfl rfl (Nat.le_of_ble_eq_true rfl) (by decide) d_AbstractStringBuilder_append_String_21 (fun r9 F9 z9 hp9 => ?_)
  obtain ⟨v1, K1, ge, zz, rfl, h9c, j0, j1, pk_21, pw_21, hag9⟩ := hp9
  rw [h9c]
  clear h9c z9
  generalize F9 = F1 at *
  have hv : F1 (v) = some (.inr (2, K, fun b9 => .int (nI (gk b9)))) := (hag9 _ (by omega) (by omega)).trans hv
  have hb : F1 (b) = some (.inl (10, [.ref v1, .int (nI 0), .int (nI 0), .int (nI (c))])) := j0
  have hv1 : F1 (v1) = some (.inr (2, K1, fun b9 => .int (nI (ge b9)))) := j1
  have hag : ∀ a9 : Nat, (a9 < b ∨ b + 1 ≤ a9) → (a9 < v ∨ v + 1 ≤ a9) → (a9 < z ∨ z + 1 ≤ a9) → F1 a9 = F a9 := fun a9 q0 q1 q2 => (hag9 a9 (by omega) (by omega)).trans (hag a9 q0 q1 q2)
  have hg_21 := hag9
  clear hag9
  have hK9 : K1 ≤ 9000 := by rcases pk_21.1.2.2 with e | ⟨e, e2⟩ <;> first | omega | (have := ncap_b e2; omega)
  refine x_aload_n hC d_AbstractStringBuilder_append_String_24 rfl rfl ?_
  refine x_aload_n hC d_AbstractStringBuilder_append_String_25 rfl rfl ?_
  refine x_getf hC kf_AbstractStringBuilder_79 hb rfl d_AbstractStringBuilder_append_String_26 ?_
  refine x_aload_n hC d_AbstractStringBuilder_append_String_29 rfl rfl ?_
  refine x_callU hC ku_AbstractStringBuilder_208 (c_AbstractStringBuilder_putStringAtO (hb := hb) (hv := hv1) (hS := hS) (h1 := by omega) (hsd := by omega) (vb := vb) (fo := fo) (n := n) (g := g)) hb rfl (by decide) rfl rfl rfl (Nat.le_of_ble_eq_true rfl) (by decide) d_AbstractStringBuilder_append_String_30 (fun r9 F9 z9 hp9 => ?_)
  obtain ⟨g1, rfl, h9c, j0, pk_30, hag9⟩ := hp9
  rw [h9c]
  clear h9c z9
  generalize F9 = F2 at *
  have hb : F2 (b) = some (.inl (10, [.ref v1, .int (nI 0), .int (nI 0), .int (nI (c))])) := (hag9 _ (by omega)).trans hb
  have hv1 : F2 (v1) = some (.inr (2, K1, fun b9 => .int (nI (g1 b9)))) := j0
  have hag : ∀ a9 : Nat, (a9 < b ∨ b + 1 ≤ a9) → (a9 < v ∨ v + 1 ≤ a9) → (a9 < z ∨ z + 1 ≤ a9) → F2 a9 = F a9 := fun a9 q0 q1 q2 => (hag9 a9 (by omega)).trans (hag a9 q0 q1 q2)
  have hg_30 := hag9
  clear hag9
  refine x_aload_n hC d_AbstractStringBuilder_append_String_33 rfl rfl ?_
  refine x_dup hC d_AbstractStringBuilder_append_String_34 rfl ?_
  refine x_getf hC kf_AbstractStringBuilder_79 hb rfl d_AbstractStringBuilder_append_String_35 ?_
  refine x_iload_n hC d_AbstractStringBuilder_append_String_38 rfl rfl ?_
  refine x_iadd hC d_AbstractStringBuilder_append_String_39 (v := (nI (c + n))) (x_addN (by omega)) ?_
  refine x_putf hC kf_AbstractStringBuilder_79 hb (Nat.le_of_ble_eq_true rfl) rfl rfl d_AbstractStringBuilder_append_String_40 (fs1 := [.ref v1, .int (nI 0), .int (nI 0), .int (nI (c + n))]) rfl ?_
  generalize e3 : xup F2 (b) (.inl (10, [.ref v1, .int (nI 0), .int (nI 0), .int (nI (c + n))])) = F3
  have hb : F3 (b) = some (.inl (10, [.ref v1, .int (nI 0), .int (nI 0), .int (nI (c + n))])) := by rw [← e3]; exact xup_eq
  have hv1 : F3 (v1) = some (.inr (2, K1, fun b9 => .int (nI (g1 b9)))) := by rw [← e3]; exact (xup_ne (by omega)).trans hv1
  have hag : ∀ a9 : Nat, (a9 < b ∨ b + 1 ≤ a9) → (a9 < v ∨ v + 1 ≤ a9) → (a9 < z ∨ z + 1 ≤ a9) → F3 a9 = F a9 := fun a9 q0 q1 q2 => by rw [← e3]; exact (xup_ne (by omega)).trans (hag a9 q0 q1 q2)
  refine x_aload_n hC d_AbstractStringBuilder_append_String_43 rfl rfl ?_
  exact hret _ _ _ _ _ _ _ d_AbstractStringBuilder_append_String_44 (by decide) (by decide) (Or.inr ⟨_, rfl⟩) (⟨v1, K1, g1, zz, rfl, rfl, hb, hv1, ⟨pk_21.1, ⟨fun j hj => by rw [← pk_30, va_cpy, if_neg (by omega)]; exact pk_21.2.1 j (by omega), fun i hi => by rw [← pk_30, va_cpy, if_pos (by omega), Nat.zero_add, show c + i - c = i by omega], fun j hj => (Classical.em (c ≤ j ∧ j < c + n)).elim (fun q => by rw [← pk_30, va_cpy, if_pos q, Nat.zero_add]; exact hS.2.2.2.2.2.2.2 _ (by omega)) (fun q => by rw [← pk_30, va_cpy, if_neg q]; exact pk_21.2.2 j hj)⟩⟩, pw_21, hag⟩)

theorem d_StringBuilder_append_String_0 : decode prog_34_method_7_code 0 = .ok (.aload_n 0, 1) := by decide +kernel
theorem d_StringBuilder_append_String_1 : decode prog_34_method_7_code 1 = .ok (.aload_n 1, 1) := by decide +kernel
theorem d_StringBuilder_append_String_2 : decode prog_34_method_7_code 2 = .ok (.invokespecial 29, 3) := by decide +kernel
theorem d_StringBuilder_append_String_5 : decode prog_34_method_7_code 5 = .ok (.pop, 1) := by decide +kernel
theorem d_StringBuilder_append_String_6 : decode prog_34_method_7_code 6 = .ok (.aload_n 0, 1) := by decide +kernel
theorem d_StringBuilder_append_String_7 : decode prog_34_method_7_code 7 = .ok (.areturn, 1) := by decide +kernel
set_option maxHeartbeats 4000000 in
set_option maxRecDepth 20000 in
theorem c_StringBuilder_append_StringJ {P : xP} {F : xF} {z : Nat} {b : Nat} {v : Nat} {c : Nat} {fo : Nat} {K : Nat} {g : Nat → Nat} {s : Nat} {w : Nat} {n : Nat} {u : Nat → Nat} (hb : F (b) = some (.inl (10, [.ref v, .int (nI 0), .int (nI 0), .int (nI (c))]))) (hv : F (v) = some (.inr (2, K, fun b9 => .int (nI (g b9))))) (hs : F (s) = some (.inl (11, [.ref w, .int (nI 0), .int (nI 0), .int (nI 0)]))) (hw : F (w) = some (.inr (2, n, fun b9 => .int (nI (u b9))))) (hJ : xJd P fo) (h1 : c ≤ K ∧ K ≤ 450 ∧ c + n ≤ 450) (hg : ∀ j, j < K → g j < 128) (hbv : b ≠ v ∧ b < z ∧ v < z) (hu : ∀ j, j < n → u j < 128) (hsv : (s ≠ b ∧ s ≠ v ∧ s < z) ∧ w ≠ b ∧ w ≠ v ∧ w < z) : xM P xy_StringBuilder_append_String [.ref b, .ref s] F (z) 1 1000 (fun r9 F9 z9 => ∃ v1 : Nat, ∃ K1 : Nat, ∃ g1 : Nat → Nat, ∃ zz : Nat, r9 = some (.ref b) ∧ z9 = zz ∧ F9 (b) = some (.inl (10, [.ref v1, .int (nI 0), .int (nI 0), .int (nI (c + n))])) ∧ F9 (v1) = some (.inr (2, K1, fun b9 => .int (nI (g1 b9)))) ∧ ((c + n ≤ K1 ∧ K ≤ K1 ∧ (K1 = K ∨ K1 = ncap K (c + n) ∧ K < c + n)) ∧ (∀ j, j < c → g1 j = g j) ∧ (∀ i, i < n → g1 (c + i) = u i) ∧ ∀ j, j < K1 → g1 j < 128) ∧ ((v1 = v ∧ zz = z) ∨ (v1 = z ∧ zz = z + 1)) ∧ (∀ a9 : Nat, (a9 < b ∨ b + 1 ≤ a9) → (a9 < v ∨ v + 1 ≤ a9) → (a9 < z ∨ z + 1 ≤ a9) → F9 a9 = F a9)) := by
  refine xM_a (by decide +kernel) (Nat.le_of_ble_eq_true rfl) (L0 := [some (.ref b), some (.ref s)]) rfl rfl (by simp) fun Θ hC hret => ?_
  have hag : ∀ a9 : Nat, (a9 < b ∨ b + 1 ≤ a9) → (a9 < v ∨ v + 1 ≤ a9) → (a9 < z ∨ z + 1 ≤ a9) → F a9 = F a9 := fun a9 _ _ _ => rfl
  refine x_aload_n hC d_StringBuilder_append_String_0 rfl rfl ?_
  refine x_aload_n hC d_StringBuilder_append_String_1 rfl rfl ?_
  refine x_callQ hC kq_StringBuilder_29 (c_AbstractStringBuilder_append_StringJ (hb := hb) (hv := hv) (hs := hs) (hw := hw) (hJ := hJ) (h1 := h1) (hg := hg) (hbv := hbv) (hu := hu) (hsv := hsv) (fo := fo)) hb rfl (by decide) rfl rfl rfl (Nat.le_of_ble_eq_true rfl) (by decide) d_StringBuilder_append_String_2 (fun r9 F9 z9 hp9 => ?_)
  obtain ⟨v1, K1, g1, zz, rfl, h9c, j0, j1, pk_2, pw_2, hag9⟩ := hp9
  rw [h9c]
  clear h9c z9
  generalize F9 = F1 at *
  have hs : F1 (s) = some (.inl (11, [.ref w, .int (nI 0), .int (nI 0), .int (nI 0)])) := (hag9 _ (by omega) (by omega) (by omega)).trans hs
  have hw : F1 (w) = some (.inr (2, n, fun b9 => .int (nI (u b9)))) := (hag9 _ (by omega) (by omega) (by omega)).trans hw
  have hb : F1 (b) = some (.inl (10, [.ref v1, .int (nI 0), .int (nI 0), .int (nI (c + n))])) := j0
  have hv1 : F1 (v1) = some (.inr (2, K1, fun b9 => .int (nI (g1 b9)))) := j1
  have hag : ∀ a9 : Nat, (a9 < b ∨ b + 1 ≤ a9) → (a9 < v ∨ v + 1 ≤ a9) → (a9 < z ∨ z + 1 ≤ a9) → F1 a9 = F a9 := fun a9 q0 q1 q2 => (hag9 a9 (by omega) (by omega) (by omega)).trans (hag a9 q0 q1 q2)
  have hg_2 := hag9
  clear hag9
  refine x_pop hC d_StringBuilder_append_String_5 rfl ?_
  refine x_aload_n hC d_StringBuilder_append_String_6 rfl rfl ?_
  exact hret _ _ _ _ _ _ _ d_StringBuilder_append_String_7 (by decide) (by decide) (Or.inr ⟨_, rfl⟩) (⟨v1, K1, g1, zz, rfl, rfl, hb, hv1, pk_2, pw_2, hag⟩)

set_option maxHeartbeats 4000000 in
set_option maxRecDepth 20000 in
theorem c_StringBuilder_append_StringO {P : xP} {F : xF} {z : Nat} {b : Nat} {v : Nat} {c : Nat} {K : Nat} {gk : Nat → Nat} {t : Nat} {vb : Nat} {fo : Nat} {n : Nat} {g : Nat → Nat} (hb : F (b) = some (.inl (10, [.ref v, .int (nI 0), .int (nI 0), .int (nI (c))]))) (hv : F (v) = some (.inr (2, K, fun b9 => .int (nI (gk b9))))) (hS : xStr P t vb fo n g) (h1 : c ≤ K ∧ K ≤ 450 ∧ c + n ≤ 450) (hg : ∀ j, j < K → gk j < 128) (hbv : b ≠ v ∧ b < z ∧ v < z) : xM P xy_StringBuilder_append_String [.ref b, .ref t] F (z) 1 1000 (fun r9 F9 z9 => ∃ v1 : Nat, ∃ K1 : Nat, ∃ g1 : Nat → Nat, ∃ zz : Nat, r9 = some (.ref b) ∧ z9 = zz ∧ F9 (b) = some (.inl (10, [.ref v1, .int (nI 0), .int (nI 0), .int (nI (c + n))])) ∧ F9 (v1) = some (.inr (2, K1, fun b9 => .int (nI (g1 b9)))) ∧ ((c + n ≤ K1 ∧ K ≤ K1 ∧ (K1 = K ∨ K1 = ncap K (c + n) ∧ K < c + n)) ∧ (∀ j, j < c → g1 j = gk j) ∧ (∀ i, i < n → g1 (c + i) = g i) ∧ ∀ j, j < K1 → g1 j < 128) ∧ ((v1 = v ∧ zz = z) ∨ (v1 = z ∧ zz = z + 1)) ∧ (∀ a9 : Nat, (a9 < b ∨ b + 1 ≤ a9) → (a9 < v ∨ v + 1 ≤ a9) → (a9 < z ∨ z + 1 ≤ a9) → F9 a9 = F a9)) := by
  refine xM_a (by decide +kernel) (Nat.le_of_ble_eq_true rfl) (L0 := [some (.ref b), some (.ref t)]) rfl rfl (by simp) fun Θ hC hret => ?_
  have hag : ∀ a9 : Nat, (a9 < b ∨ b + 1 ≤ a9) → (a9 < v ∨ v + 1 ≤ a9) → (a9 < z ∨ z + 1 ≤ a9) → F a9 = F a9 := fun a9 _ _ _ => rfl
  refine x_aload_n hC d_StringBuilder_append_String_0 rfl rfl ?_
  refine x_aload_n hC d_StringBuilder_append_String_1 rfl rfl ?_
  refine x_callQ hC kq_StringBuilder_29 (c_AbstractStringBuilder_append_StringO (hb := hb) (hv := hv) (hS := hS) (h1 := h1) (hg := hg) (hbv := hbv) (vb := vb) (fo := fo) (n := n) (g := g)) hb rfl (by decide) rfl rfl rfl (Nat.le_of_ble_eq_true rfl) (by decide) d_StringBuilder_append_String_2 (fun r9 F9 z9 hp9 => ?_)
  obtain ⟨v1, K1, g1, zz, rfl, h9c, j0, j1, pk_2, pw_2, hag9⟩ := hp9
  rw [h9c]
  clear h9c z9
  generalize F9 = F1 at *
  have hb : F1 (b) = some (.inl (10, [.ref v1, .int (nI 0), .int (nI 0), .int (nI (c + n))])) := j0
  have hv1 : F1 (v1) = some (.inr (2, K1, fun b9 => .int (nI (g1 b9)))) := j1
  have hag : ∀ a9 : Nat, (a9 < b ∨ b + 1 ≤ a9) → (a9 < v ∨ v + 1 ≤ a9) → (a9 < z ∨ z + 1 ≤ a9) → F1 a9 = F a9 := fun a9 q0 q1 q2 => (hag9 a9 (by omega) (by omega) (by omega)).trans (hag a9 q0 q1 q2)
  have hg_2 := hag9
  clear hag9
  refine x_pop hC d_StringBuilder_append_String_5 rfl ?_
  refine x_aload_n hC d_StringBuilder_append_String_6 rfl rfl ?_
  exact hret _ _ _ _ _ _ _ d_StringBuilder_append_String_7 (by decide) (by decide) (Or.inr ⟨_, rfl⟩) (⟨v1, K1, g1, zz, rfl, rfl, hb, hv1, pk_2, pw_2, hag⟩)

theorem d_AbstractStringBuilder_append_C_0 : decode prog_16_method_31_code 0 = .ok (.aload_n 0, 1) := by decide +kernel
theorem d_AbstractStringBuilder_append_C_1 : decode prog_16_method_31_code 1 = .ok (.aload_n 0, 1) := by decide +kernel
theorem d_AbstractStringBuilder_append_C_2 : decode prog_16_method_31_code 2 = .ok (.getfield 79, 3) := by decide +kernel
theorem d_AbstractStringBuilder_append_C_5 : decode prog_16_method_31_code 5 = .ok (.iconst 1, 1) := by decide +kernel
theorem d_AbstractStringBuilder_append_C_6 : decode prog_16_method_31_code 6 = .ok (.iadd, 1) := by decide +kernel
theorem d_AbstractStringBuilder_append_C_7 : decode prog_16_method_31_code 7 = .ok (.invokevirtual 100, 3) := by decide +kernel
theorem d_AbstractStringBuilder_append_C_10 : decode prog_16_method_31_code 10 = .ok (.aload_n 0, 1) := by decide +kernel
theorem d_AbstractStringBuilder_append_C_11 : decode prog_16_method_31_code 11 = .ok (.invokevirtual 83, 3) := by decide +kernel
theorem d_AbstractStringBuilder_append_C_14 : decode prog_16_method_31_code 14 = .ok (.ifCond .eq 31, 3) := by decide +kernel
theorem d_AbstractStringBuilder_append_C_17 : decode prog_16_method_31_code 17 = .ok (.iload_n 1, 1) := by decide +kernel
theorem d_AbstractStringBuilder_append_C_18 : decode prog_16_method_31_code 18 = .ok (.invokestatic 191, 3) := by decide +kernel
theorem d_AbstractStringBuilder_append_C_21 : decode prog_16_method_31_code 21 = .ok (.ifCond .eq 24, 3) := by decide +kernel
theorem d_AbstractStringBuilder_append_C_24 : decode prog_16_method_31_code 24 = .ok (.aload_n 0, 1) := by decide +kernel
theorem d_AbstractStringBuilder_append_C_25 : decode prog_16_method_31_code 25 = .ok (.getfield 15, 3) := by decide +kernel
theorem d_AbstractStringBuilder_append_C_28 : decode prog_16_method_31_code 28 = .ok (.aload_n 0, 1) := by decide +kernel
theorem d_AbstractStringBuilder_append_C_29 : decode prog_16_method_31_code 29 = .ok (.dup, 1) := by decide +kernel
theorem d_AbstractStringBuilder_append_C_30 : decode prog_16_method_31_code 30 = .ok (.getfield 79, 3) := by decide +kernel
theorem d_AbstractStringBuilder_append_C_33 : decode prog_16_method_31_code 33 = .ok (.dup_x1, 1) := by decide +kernel
theorem d_AbstractStringBuilder_append_C_34 : decode prog_16_method_31_code 34 = .ok (.iconst 1, 1) := by decide +kernel
theorem d_AbstractStringBuilder_append_C_35 : decode prog_16_method_31_code 35 = .ok (.iadd, 1) := by decide +kernel
theorem d_AbstractStringBuilder_append_C_36 : decode prog_16_method_31_code 36 = .ok (.putfield 79, 3) := by decide +kernel
theorem d_AbstractStringBuilder_append_C_39 : decode prog_16_method_31_code 39 = .ok (.iload_n 1, 1) := by decide +kernel
theorem d_AbstractStringBuilder_append_C_40 : decode prog_16_method_31_code 40 = .ok (.i2b, 1) := by decide +kernel
theorem d_AbstractStringBuilder_append_C_41 : decode prog_16_method_31_code 41 = .ok (.bastore, 1) := by decide +kernel
theorem d_AbstractStringBuilder_append_C_42 : decode prog_16_method_31_code 42 = .ok (.goto 33, 3) := by decide +kernel
theorem d_AbstractStringBuilder_append_C_45 : decode prog_16_method_31_code 45 = .ok (.aload_n 0, 1) := by decide +kernel
theorem d_AbstractStringBuilder_append_C_46 : decode prog_16_method_31_code 46 = .ok (.invokevirtual 83, 3) := by decide +kernel
theorem d_AbstractStringBuilder_append_C_49 : decode prog_16_method_31_code 49 = .ok (.ifCond .eq 7, 3) := by decide +kernel
theorem d_AbstractStringBuilder_append_C_52 : decode prog_16_method_31_code 52 = .ok (.aload_n 0, 1) := by decide +kernel
theorem d_AbstractStringBuilder_append_C_53 : decode prog_16_method_31_code 53 = .ok (.invokevirtual 195, 3) := by decide +kernel
theorem d_AbstractStringBuilder_append_C_56 : decode prog_16_method_31_code 56 = .ok (.aload_n 0, 1) := by decide +kernel
theorem d_AbstractStringBuilder_append_C_57 : decode prog_16_method_31_code 57 = .ok (.getfield 15, 3) := by decide +kernel
theorem d_AbstractStringBuilder_append_C_60 : decode prog_16_method_31_code 60 = .ok (.aload_n 0, 1) := by decide +kernel
theorem d_AbstractStringBuilder_append_C_61 : decode prog_16_method_31_code 61 = .ok (.dup, 1) := by decide +kernel
theorem d_AbstractStringBuilder_append_C_62 : decode prog_16_method_31_code 62 = .ok (.getfield 79, 3) := by decide +kernel
theorem d_AbstractStringBuilder_append_C_65 : decode prog_16_method_31_code 65 = .ok (.dup_x1, 1) := by decide +kernel
theorem d_AbstractStringBuilder_append_C_66 : decode prog_16_method_31_code 66 = .ok (.iconst 1, 1) := by decide +kernel
theorem d_AbstractStringBuilder_append_C_67 : decode prog_16_method_31_code 67 = .ok (.iadd, 1) := by decide +kernel
theorem d_AbstractStringBuilder_append_C_68 : decode prog_16_method_31_code 68 = .ok (.putfield 79, 3) := by decide +kernel
theorem d_AbstractStringBuilder_append_C_71 : decode prog_16_method_31_code 71 = .ok (.iload_n 1, 1) := by decide +kernel
theorem d_AbstractStringBuilder_append_C_72 : decode prog_16_method_31_code 72 = .ok (.invokestatic 197, 3) := by decide +kernel
theorem d_AbstractStringBuilder_append_C_75 : decode prog_16_method_31_code 75 = .ok (.aload_n 0, 1) := by decide +kernel
theorem d_AbstractStringBuilder_append_C_76 : decode prog_16_method_31_code 76 = .ok (.areturn, 1) := by decide +kernel
set_option maxHeartbeats 4000000 in
set_option maxRecDepth 20000 in
theorem c_AbstractStringBuilder_append_C {P : xP} {F : xF} {z : Nat} {b : Nat} {v : Nat} {c : Nat} {fo : Nat} {K : Nat} {g : Nat → Nat} {x : Nat} (hb : F (b) = some (.inl (10, [.ref v, .int (nI 0), .int (nI 0), .int (nI (c))]))) (hv : F (v) = some (.inr (2, K, fun b9 => .int (nI (g b9))))) (hJ : xJd P fo) (h1 : c ≤ K ∧ K ≤ 450 ∧ c + 1 ≤ 450) (hg : ∀ j, j < K → g j < 128) (hbv : b ≠ v ∧ b < z ∧ v < z) (hx : x < 128) : xM P xy_AbstractStringBuilder_append_C [.ref b, .int (nI (x))] F (z) 1 1000 (fun r9 F9 z9 => ∃ v1 : Nat, ∃ K1 : Nat, ∃ g1 : Nat → Nat, ∃ zz : Nat, r9 = some (.ref b) ∧ z9 = zz ∧ F9 (b) = some (.inl (10, [.ref v1, .int (nI 0), .int (nI 0), .int (nI (c + 1))])) ∧ F9 (v1) = some (.inr (2, K1, fun b9 => .int (nI (g1 b9)))) ∧ ((c + 1 ≤ K1 ∧ K ≤ K1 ∧ (K1 = K ∨ K1 = ncap K (c + 1) ∧ K < c + 1)) ∧ (∀ j, j < c → g1 j = g j) ∧ (g1 c = x) ∧ ∀ j, j < K1 → g1 j < 128) ∧ ((v1 = v ∧ zz = z) ∨ (v1 = z ∧ zz = z + 1)) ∧ (∀ a9 : Nat, (a9 < b ∨ b + 1 ≤ a9) → (a9 < v ∨ v + 1 ≤ a9) → (a9 < z ∨ z + 1 ≤ a9) → F9 a9 = F a9)) := by
  refine xM_a (by decide +kernel) (Nat.le_of_ble_eq_true rfl) (L0 := [some (.ref b), some (.int (nI (x)))]) rfl rfl (by simp) fun Θ hC hret => ?_
  have hag : ∀ a9 : Nat, (a9 < b ∨ b + 1 ≤ a9) → (a9 < v ∨ v + 1 ≤ a9) → (a9 < z ∨ z + 1 ≤ a9) → F a9 = F a9 := fun a9 _ _ _ => rfl
  refine x_aload_n hC d_AbstractStringBuilder_append_C_0 rfl rfl ?_
  refine x_aload_n hC d_AbstractStringBuilder_append_C_1 rfl rfl ?_
  refine x_getf hC kf_AbstractStringBuilder_79 hb rfl d_AbstractStringBuilder_append_C_2 ?_
  refine x_iconst hC d_AbstractStringBuilder_append_C_5 (v := nI 1) (by decide) ?_
  refine x_iadd hC d_AbstractStringBuilder_append_C_6 (v := (nI (c + 1))) (x_addN (by omega)) ?_
  refine x_callU hC ku_AbstractStringBuilder_100 (c_AbstractStringBuilder_ensureCapacityInternal (hb := hb) (hv := hv) (h1 := by omega) (hg := hg) (hbv := hbv)) hb rfl (by decide) rfl rfl rfl (Nat.le_of_ble_eq_true rfl) (by decide) d_AbstractStringBuilder_append_C_7 (fun r9 F9 z9 hp9 => ?_)
  obtain ⟨v1, K1, ge, zz, rfl, h9c, j0, j1, pk_7, pw_7, hag9⟩ := hp9
  rw [h9c]
  clear h9c z9
  generalize F9 = F1 at *
  have hv : F1 (v) = some (.inr (2, K, fun b9 => .int (nI (g b9)))) := (hag9 _ (by omega) (by omega)).trans hv
  have hb : F1 (b) = some (.inl (10, [.ref v1, .int (nI 0), .int (nI 0), .int (nI (c))])) := j0
  have hv1 : F1 (v1) = some (.inr (2, K1, fun b9 => .int (nI (ge b9)))) := j1
  have hag : ∀ a9 : Nat, (a9 < b ∨ b + 1 ≤ a9) → (a9 < v ∨ v + 1 ≤ a9) → (a9 < z ∨ z + 1 ≤ a9) → F1 a9 = F a9 := fun a9 q0 q1 q2 => (hag9 a9 (by omega) (by omega)).trans (hag a9 q0 q1 q2)
  have hg_7 := hag9
  clear hag9
  have hK9 : K1 ≤ 9000 := by rcases pk_7.1.2.2 with e | ⟨e, e2⟩ <;> first | omega | (have := ncap_b e2; omega)
  refine x_aload_n hC d_AbstractStringBuilder_append_C_10 rfl rfl ?_
  refine x_callU hC ku_AbstractStringBuilder_83 (c_AbstractStringBuilder_isLatin1 (hb := hb) (hJ := hJ) (fo := fo)) hb rfl (by decide) rfl rfl rfl (Nat.le_of_ble_eq_true rfl) (by decide) d_AbstractStringBuilder_append_C_11 (fun r9 F9 z9 hp9 => ?_)
  obtain ⟨rfl, h9b, h9c⟩ := hp9
  rw [h9b, h9c]
  clear h9b h9c F9 z9
  refine x_ifN_eq hC d_AbstractStringBuilder_append_C_14 (tgt := 45) (by decide) (by omega) (fun c_14 => ?_) (fun c_14 => ?_)
  · skip
    exact absurd c_14 (by omega)
  · skip
    refine x_iload_n hC d_AbstractStringBuilder_append_C_17 rfl rfl ?_
    refine x_callS hC ks_AbstractStringBuilder_191 (c_StringLatin1_canEncode (hx := hx)) (by decide) rfl rfl rfl (Nat.le_of_ble_eq_true rfl) (by decide) d_AbstractStringBuilder_append_C_18 (fun r9 F9 z9 hp9 => ?_)
    obtain ⟨rfl, h9b, h9c⟩ := hp9
    rw [h9b, h9c]
    clear h9b h9c F9 z9
    refine x_ifN_eq hC d_AbstractStringBuilder_append_C_21 (tgt := 45) (by decide) (by omega) (fun c_21 => ?_) (fun c_21 => ?_)
    · skip
      exact absurd c_21 (by omega)
    · skip
      refine x_aload_n hC d_AbstractStringBuilder_append_C_24 rfl rfl ?_
      refine x_getf hC kf_AbstractStringBuilder_15 hb rfl d_AbstractStringBuilder_append_C_25 ?_
      refine x_aload_n hC d_AbstractStringBuilder_append_C_28 rfl rfl ?_
      refine x_dup hC d_AbstractStringBuilder_append_C_29 rfl ?_
      refine x_getf hC kf_AbstractStringBuilder_79 hb rfl d_AbstractStringBuilder_append_C_30 ?_
      refine x_dup_x1 hC d_AbstractStringBuilder_append_C_33 rfl rfl ?_
      refine x_iconst hC d_AbstractStringBuilder_append_C_34 (v := nI 1) (by decide) ?_
      refine x_iadd hC d_AbstractStringBuilder_append_C_35 (v := (nI (c + 1))) (x_addN (by omega)) ?_
      refine x_putf hC kf_AbstractStringBuilder_79 hb (Nat.le_of_ble_eq_true rfl) rfl rfl d_AbstractStringBuilder_append_C_36 (fs1 := [.ref v1, .int (nI 0), .int (nI 0), .int (nI (c + 1))]) rfl ?_
      generalize e2 : xup F1 (b) (.inl (10, [.ref v1, .int (nI 0), .int (nI 0), .int (nI (c + 1))])) = F2
      have hb : F2 (b) = some (.inl (10, [.ref v1, .int (nI 0), .int (nI 0), .int (nI (c + 1))])) := by rw [← e2]; exact xup_eq
      have hv1 : F2 (v1) = some (.inr (2, K1, fun b9 => .int (nI (ge b9)))) := by rw [← e2]; exact (xup_ne (by omega)).trans hv1
      have hag : ∀ a9 : Nat, (a9 < b ∨ b + 1 ≤ a9) → (a9 < v ∨ v + 1 ≤ a9) → (a9 < z ∨ z + 1 ≤ a9) → F2 a9 = F a9 := fun a9 q0 q1 q2 => by rw [← e2]; exact (xup_ne (by omega)).trans (hag a9 q0 q1 q2)
      refine x_iload_n hC d_AbstractStringBuilder_append_C_39 rfl rfl ?_
      refine x_i2b hC d_AbstractStringBuilder_append_C_40 (xt_i2b (by omega)) ?_
      refine x_bast hC hv1 (j := c) ⟨rfl, by omega, by omega⟩ (xt_narb (by omega)) d_AbstractStringBuilder_append_C_41 (g1 := fun b9 => nI (updN ge (c) (x) b9)) (x_updN _ _ _) ?_
      generalize egn : updN ge (c) (x) = gn
      generalize e4 : xup F2 (v1) (.inr (2, K1, fun b9 => .int (nI (gn b9)))) = F4
      have hb : F4 (b) = some (.inl (10, [.ref v1, .int (nI 0), .int (nI 0), .int (nI (c + 1))])) := by rw [← e4]; exact (xup_ne (by omega)).trans hb
      have hv1 : F4 (v1) = some (.inr (2, K1, fun b9 => .int (nI (gn b9)))) := by rw [← e4]; exact xup_eq
      have hag : ∀ a9 : Nat, (a9 < b ∨ b + 1 ≤ a9) → (a9 < v ∨ v + 1 ≤ a9) → (a9 < z ∨ z + 1 ≤ a9) → F4 a9 = F a9 := fun a9 q0 q1 q2 => by rw [← e4]; exact (xup_ne (by omega)).trans (hag a9 q0 q1 q2)
      refine x_goto hC d_AbstractStringBuilder_append_C_42 (tgt := 75) (by decide) ?_
      refine x_aload_n hC d_AbstractStringBuilder_append_C_75 rfl rfl ?_
      exact hret _ _ _ _ _ _ _ d_AbstractStringBuilder_append_C_76 (by decide) (by decide) (Or.inr ⟨_, rfl⟩) (⟨v1, K1, gn, zz, rfl, rfl, hb, hv1, ⟨pk_7.1, fun j hj => by rw [← egn, updN_ne (by omega)]; exact pk_7.2.1 j (by omega), by rw [← egn, updN_eq], fun j hj => (Classical.em (j = c)).elim (fun q => by rw [← egn, q, updN_eq]; exact hx) (fun q => by rw [← egn, updN_ne q]; exact pk_7.2.2 j hj)⟩, pw_7, hag⟩)

theorem d_StringBuilder_append_C_0 : decode prog_34_method_14_code 0 = .ok (.aload_n 0, 1) := by decide +kernel
theorem d_StringBuilder_append_C_1 : decode prog_34_method_14_code 1 = .ok (.iload_n 1, 1) := by decide +kernel
theorem d_StringBuilder_append_C_2 : decode prog_34_method_14_code 2 = .ok (.invokespecial 50, 3) := by decide +kernel
theorem d_StringBuilder_append_C_5 : decode prog_34_method_14_code 5 = .ok (.pop, 1) := by decide +kernel
theorem d_StringBuilder_append_C_6 : decode prog_34_method_14_code 6 = .ok (.aload_n 0, 1) := by decide +kernel
theorem d_StringBuilder_append_C_7 : decode prog_34_method_14_code 7 = .ok (.areturn, 1) := by decide +kernel
set_option maxHeartbeats 4000000 in
set_option maxRecDepth 20000 in
theorem c_StringBuilder_append_C {P : xP} {F : xF} {z : Nat} {b : Nat} {v : Nat} {c : Nat} {fo : Nat} {K : Nat} {g : Nat → Nat} {x : Nat} (hb : F (b) = some (.inl (10, [.ref v, .int (nI 0), .int (nI 0), .int (nI (c))]))) (hv : F (v) = some (.inr (2, K, fun b9 => .int (nI (g b9))))) (hJ : xJd P fo) (h1 : c ≤ K ∧ K ≤ 450 ∧ c + 1 ≤ 450) (hg : ∀ j, j < K → g j < 128) (hbv : b ≠ v ∧ b < z ∧ v < z) (hx : x < 128) : xM P xy_StringBuilder_append_C [.ref b, .int (nI (x))] F (z) 1 1000 (fun r9 F9 z9 => ∃ v1 : Nat, ∃ K1 : Nat, ∃ g1 : Nat → Nat, ∃ zz : Nat, r9 = some (.ref b) ∧ z9 = zz ∧ F9 (b) = some (.inl (10, [.ref v1, .int (nI 0), .int (nI 0), .int (nI (c + 1))])) ∧ F9 (v1) = some (.inr (2, K1, fun b9 => .int (nI (g1 b9)))) ∧ ((c + 1 ≤ K1 ∧ K ≤ K1 ∧ (K1 = K ∨ K1 = ncap K (c + 1) ∧ K < c + 1)) ∧ (∀ j, j < c → g1 j = g j) ∧ (g1 c = x) ∧ ∀ j, j < K1 → g1 j < 128) ∧ ((v1 = v ∧ zz = z) ∨ (v1 = z ∧ zz = z + 1)) ∧ (∀ a9 : Nat, (a9 < b ∨ b + 1 ≤ a9) → (a9 < v ∨ v + 1 ≤ a9) → (a9 < z ∨ z + 1 ≤ a9) → F9 a9 = F a9)) := by
  refine xM_a (by decide +kernel) (Nat.le_of_ble_eq_true rfl) (L0 := [some (.ref b), some (.int (nI (x)))]) rfl rfl (by simp) fun Θ hC hret => ?_
  have hag : ∀ a9 : Nat, (a9 < b ∨ b + 1 ≤ a9) → (a9 < v ∨ v + 1 ≤ a9) → (a9 < z ∨ z + 1 ≤ a9) → F a9 = F a9 := fun a9 _ _ _ => rfl
  refine x_aload_n hC d_StringBuilder_append_C_0 rfl rfl ?_
  refine x_iload_n hC d_StringBuilder_append_C_1 rfl rfl ?_
  refine x_callQ hC kq_StringBuilder_50 (c_AbstractStringBuilder_append_C (hb := hb) (hv := hv) (hJ := hJ) (h1 := h1) (hg := hg) (hbv := hbv) (hx := hx) (fo := fo)) hb rfl (by decide) rfl rfl rfl (Nat.le_of_ble_eq_true rfl) (by decide) d_StringBuilder_append_C_2 (fun r9 F9 z9 hp9 => ?_)
  obtain ⟨v1, K1, g1, zz, rfl, h9c, j0, j1, pk_2, pw_2, hag9⟩ := hp9
  rw [h9c]
  clear h9c z9
  generalize F9 = F1 at *
  have hb : F1 (b) = some (.inl (10, [.ref v1, .int (nI 0), .int (nI 0), .int (nI (c + 1))])) := j0
  have hv1 : F1 (v1) = some (.inr (2, K1, fun b9 => .int (nI (g1 b9)))) := j1
  have hag : ∀ a9 : Nat, (a9 < b ∨ b + 1 ≤ a9) → (a9 < v ∨ v + 1 ≤ a9) → (a9 < z ∨ z + 1 ≤ a9) → F1 a9 = F a9 := fun a9 q0 q1 q2 => (hag9 a9 (by omega) (by omega) (by omega)).trans (hag a9 q0 q1 q2)
  have hg_2 := hag9
  clear hag9
  refine x_pop hC d_StringBuilder_append_C_5 rfl ?_
  refine x_aload_n hC d_StringBuilder_append_C_6 rfl rfl ?_
  exact hret _ _ _ _ _ _ _ d_StringBuilder_append_C_7 (by decide) (by decide) (Or.inr ⟨_, rfl⟩) (⟨v1, K1, g1, zz, rfl, rfl, hb, hv1, pk_2, pw_2, hag⟩)

theorem d_AbstractStringBuilder_init_0 : decode prog_16_method_2_code 0 = .ok (.aload_n 0, 1) := by decide +kernel
theorem d_AbstractStringBuilder_init_1 : decode prog_16_method_2_code 1 = .ok (.invokespecial 3, 3) := by decide +kernel
theorem d_AbstractStringBuilder_init_4 : decode prog_16_method_2_code 4 = .ok (.getstatic 18, 3) := by decide +kernel
theorem d_AbstractStringBuilder_init_7 : decode prog_16_method_2_code 7 = .ok (.ifCond .eq 18, 3) := by decide +kernel
theorem d_AbstractStringBuilder_init_10 : decode prog_16_method_2_code 10 = .ok (.aload_n 0, 1) := by decide +kernel
theorem d_AbstractStringBuilder_init_11 : decode prog_16_method_2_code 11 = .ok (.iload_n 1, 1) := by decide +kernel
theorem d_AbstractStringBuilder_init_12 : decode prog_16_method_2_code 12 = .ok (.newarray .byte, 2) := by decide +kernel
theorem d_AbstractStringBuilder_init_14 : decode prog_16_method_2_code 14 = .ok (.putfield 15, 3) := by decide +kernel
theorem d_AbstractStringBuilder_init_17 : decode prog_16_method_2_code 17 = .ok (.aload_n 0, 1) := by decide +kernel
theorem d_AbstractStringBuilder_init_18 : decode prog_16_method_2_code 18 = .ok (.iconst 0, 1) := by decide +kernel
theorem d_AbstractStringBuilder_init_19 : decode prog_16_method_2_code 19 = .ok (.putfield 22, 3) := by decide +kernel
theorem d_AbstractStringBuilder_init_22 : decode prog_16_method_2_code 22 = .ok (.goto 16, 3) := by decide +kernel
theorem d_AbstractStringBuilder_init_25 : decode prog_16_method_2_code 25 = .ok (.aload_n 0, 1) := by decide +kernel
theorem d_AbstractStringBuilder_init_26 : decode prog_16_method_2_code 26 = .ok (.iload_n 1, 1) := by decide +kernel
theorem d_AbstractStringBuilder_init_27 : decode prog_16_method_2_code 27 = .ok (.invokestatic 26, 3) := by decide +kernel
theorem d_AbstractStringBuilder_init_30 : decode prog_16_method_2_code 30 = .ok (.putfield 15, 3) := by decide +kernel
theorem d_AbstractStringBuilder_init_33 : decode prog_16_method_2_code 33 = .ok (.aload_n 0, 1) := by decide +kernel
theorem d_AbstractStringBuilder_init_34 : decode prog_16_method_2_code 34 = .ok (.iconst 1, 1) := by decide +kernel
theorem d_AbstractStringBuilder_init_35 : decode prog_16_method_2_code 35 = .ok (.putfield 22, 3) := by decide +kernel
theorem d_AbstractStringBuilder_init_38 : decode prog_16_method_2_code 38 = .ok (.return_, 1) := by decide +kernel
set_option maxHeartbeats 4000000 in
set_option maxRecDepth 20000 in
theorem c_AbstractStringBuilder_init {P : xP} {F : xF} {z : Nat} {b : Nat} {fo : Nat} (hb : F (b) = some (.inl (10, [.null, .int (nI 0), .int (nI 0), .int (nI 0)]))) (hJ : xJd P fo) (hbz : b < z) : xM P xy_AbstractStringBuilder_init [.ref b, .int (nI 16)] F (z) 1 16 (fun r9 F9 z9 => r9 = none ∧ z9 = z + 1 ∧ F9 (b) = some (.inl (10, [.ref z, .int (nI 0), .int (nI 0), .int (nI 0)])) ∧ F9 (z) = some (.inr (2, 16, fun b9 => .int (nI ((fun _ => 0) b9)))) ∧ (∀ a9 : Nat, (a9 < b ∨ b + 1 ≤ a9) → (a9 < z ∨ z + 1 ≤ a9) → F9 a9 = F a9)) := by
  refine xM_v (by decide +kernel) (Nat.le_of_ble_eq_true rfl) (L0 := [some (.ref b), some (.int (nI 16))]) rfl rfl fun Θ hC hin hret => ?_
  have hag : ∀ a9 : Nat, (a9 < b ∨ b + 1 ≤ a9) → (a9 < z ∨ z + 1 ≤ a9) → F a9 = F a9 := fun a9 _ _ => rfl
  refine x_aload_n hC d_AbstractStringBuilder_init_0 rfl rfl ?_
  refine x_objInit hC ko_AbstractStringBuilder_3 rfl (by decide) (Nat.le_of_ble_eq_true rfl) d_AbstractStringBuilder_init_1 ?_
  refine x_gets hC (v := .int (nI 1)) hJ.1 (x_in (x_of (xtb_6 (List.mem_of_getElem? (i := 142) (by decide +kernel)))) (by decide +kernel)) d_AbstractStringBuilder_init_4 ?_
  refine x_ifN_eq hC d_AbstractStringBuilder_init_7 (tgt := 25) (by decide) (by omega) (fun c_7 => ?_) (fun c_7 => ?_)
  · skip
    exact absurd c_7 (by omega)
  · skip
    refine x_aload_n hC d_AbstractStringBuilder_init_10 rfl rfl ?_
    refine x_iload_n hC d_AbstractStringBuilder_init_11 rfl rfl ?_
    refine x_newa hC (t := 2) rfl (by decide) (by decide) (x_in (x_of (xtb_2 (List.mem_of_getElem? (i := 192) (by decide +kernel)))) (by decide +kernel)) rfl (by omega) (by decide) (by decide) (f1 := fun b9 => .int (nI ((fun _ => 0) b9))) rfl d_AbstractStringBuilder_init_12 ?_
    generalize e1 : xup F (z) (.inr (2, 16, fun b9 => .int (nI ((fun _ => 0) b9)))) = F1
    have hb : F1 (b) = some (.inl (10, [.null, .int (nI 0), .int (nI 0), .int (nI 0)])) := by rw [← e1]; exact (xup_ne (by omega)).trans hb
    have hv : F1 (z) = some (.inr (2, 16, fun b9 => .int (nI ((fun _ => 0) b9)))) := by rw [← e1]; exact xup_eq
    have hag : ∀ a9 : Nat, (a9 < b ∨ b + 1 ≤ a9) → (a9 < z ∨ z + 1 ≤ a9) → F1 a9 = F a9 := fun a9 q0 q1 => by rw [← e1]; exact (xup_ne (by omega)).trans (hag a9 q0 q1)
    refine x_putf hC kf_AbstractStringBuilder_15 hb (Nat.le_of_ble_eq_true rfl) rfl rfl d_AbstractStringBuilder_init_14 (fs1 := [.ref z, .int (nI 0), .int (nI 0), .int (nI 0)]) rfl ?_
    generalize e2 : xup F1 (b) (.inl (10, [.ref z, .int (nI 0), .int (nI 0), .int (nI 0)])) = F2
    have hb : F2 (b) = some (.inl (10, [.ref z, .int (nI 0), .int (nI 0), .int (nI 0)])) := by rw [← e2]; exact xup_eq
    have hv : F2 (z) = some (.inr (2, 16, fun b9 => .int (nI ((fun _ => 0) b9)))) := by rw [← e2]; exact (xup_ne (by omega)).trans hv
    have hag : ∀ a9 : Nat, (a9 < b ∨ b + 1 ≤ a9) → (a9 < z ∨ z + 1 ≤ a9) → F2 a9 = F a9 := fun a9 q0 q1 => by rw [← e2]; exact (xup_ne (by omega)).trans (hag a9 q0 q1)
    refine x_aload_n hC d_AbstractStringBuilder_init_17 rfl rfl ?_
    refine x_iconst hC d_AbstractStringBuilder_init_18 (v := nI 0) (by decide) ?_
    refine x_putf hC kf_AbstractStringBuilder_22 hb (Nat.le_of_ble_eq_true rfl) rfl rfl d_AbstractStringBuilder_init_19 (fs1 := [.ref z, .int (nI 0), .int (nI 0), .int (nI 0)]) rfl ?_
    generalize e3 : xup F2 (b) (.inl (10, [.ref z, .int (nI 0), .int (nI 0), .int (nI 0)])) = F3
    have hb : F3 (b) = some (.inl (10, [.ref z, .int (nI 0), .int (nI 0), .int (nI 0)])) := by rw [← e3]; exact xup_eq
    have hv : F3 (z) = some (.inr (2, 16, fun b9 => .int (nI ((fun _ => 0) b9)))) := by rw [← e3]; exact (xup_ne (by omega)).trans hv
    have hag : ∀ a9 : Nat, (a9 < b ∨ b + 1 ≤ a9) → (a9 < z ∨ z + 1 ≤ a9) → F3 a9 = F a9 := fun a9 q0 q1 => by rw [← e3]; exact (xup_ne (by omega)).trans (hag a9 q0 q1)
    refine x_goto hC d_AbstractStringBuilder_init_22 (tgt := 38) (by decide) ?_
    exact hret _ _ _ _ _ _ d_AbstractStringBuilder_init_38 (by decide) (by decide) (⟨rfl, rfl, hb, hv, hag⟩)

theorem d_StringBuilder_init_0 : decode prog_34_method_1_code 0 = .ok (.aload_n 0, 1) := by decide +kernel
theorem d_StringBuilder_init_1 : decode prog_34_method_1_code 1 = .ok (.bipush 16, 2) := by decide +kernel
theorem d_StringBuilder_init_3 : decode prog_34_method_1_code 3 = .ok (.invokespecial 1, 3) := by decide +kernel
theorem d_StringBuilder_init_6 : decode prog_34_method_1_code 6 = .ok (.return_, 1) := by decide +kernel
set_option maxHeartbeats 4000000 in
set_option maxRecDepth 20000 in
theorem c_StringBuilder_init {P : xP} {F : xF} {z : Nat} {b : Nat} {fo : Nat} (hb : F (b) = some (.inl (10, [.null, .int (nI 0), .int (nI 0), .int (nI 0)]))) (hJ : xJd P fo) (hbz : b < z) : xM P xy_StringBuilder_init [.ref b] F (z) 1 16 (fun r9 F9 z9 => r9 = none ∧ z9 = z + 1 ∧ F9 (b) = some (.inl (10, [.ref z, .int (nI 0), .int (nI 0), .int (nI 0)])) ∧ F9 (z) = some (.inr (2, 16, fun b9 => .int (nI ((fun _ => 0) b9)))) ∧ (∀ a9 : Nat, (a9 < b ∨ b + 1 ≤ a9) → (a9 < z ∨ z + 1 ≤ a9) → F9 a9 = F a9)) := by
  refine xM_v (by decide +kernel) (Nat.le_of_ble_eq_true rfl) (L0 := [some (.ref b)]) rfl rfl fun Θ hC hin hret => ?_
  have hag : ∀ a9 : Nat, (a9 < b ∨ b + 1 ≤ a9) → (a9 < z ∨ z + 1 ≤ a9) → F a9 = F a9 := fun a9 _ _ => rfl
  refine x_aload_n hC d_StringBuilder_init_0 rfl rfl ?_
  refine x_bipush hC d_StringBuilder_init_1 (v := nI 16) (by decide) ?_
  refine x_callI hC ki_StringBuilder_1 rfl (c_AbstractStringBuilder_init (hb := hb) (hJ := hJ) (hbz := by omega) (fo := fo)) (by decide) rfl rfl rfl (Nat.le_of_ble_eq_true rfl) (by decide) d_StringBuilder_init_3 (fun r9 F9 z9 hp9 => ?_)
  obtain ⟨rfl, h9c, j0, j1, hag9⟩ := hp9
  rw [h9c]
  clear h9c z9
  generalize F9 = F1 at *
  have hb : F1 (b) = some (.inl (10, [.ref z, .int (nI 0), .int (nI 0), .int (nI 0)])) := j0
  have hv : F1 (z) = some (.inr (2, 16, fun b9 => .int (nI ((fun _ => 0) b9)))) := j1
  have hag : ∀ a9 : Nat, (a9 < b ∨ b + 1 ≤ a9) → (a9 < z ∨ z + 1 ≤ a9) → F1 a9 = F a9 := fun a9 q0 q1 => (hag9 a9 (by omega) (by omega)).trans (hag a9 q0 q1)
  have hg_3 := hag9
  clear hag9
  exact hret _ _ _ _ _ _ d_StringBuilder_init_6 (by decide) (by decide) (⟨rfl, rfl, hb, hv, hag⟩)

theorem d_Arrays_checkLength_0 : decode prog_41_method_131_code 0 = .ok (.iload_n 1, 1) := by decide +kernel
theorem d_Arrays_checkLength_1 : decode prog_41_method_131_code 1 = .ok (.iload_n 0, 1) := by decide +kernel
theorem d_Arrays_checkLength_2 : decode prog_41_method_131_code 2 = .ok (.if_icmp .ge 35, 3) := by decide +kernel
theorem d_Arrays_checkLength_5 : decode prog_41_method_131_code 5 = .ok (.new 43, 3) := by decide +kernel
theorem d_Arrays_checkLength_8 : decode prog_41_method_131_code 8 = .ok (.dup, 1) := by decide +kernel
theorem d_Arrays_checkLength_9 : decode prog_41_method_131_code 9 = .ok (.new 45, 3) := by decide +kernel
theorem d_Arrays_checkLength_12 : decode prog_41_method_131_code 12 = .ok (.dup, 1) := by decide +kernel
theorem d_Arrays_checkLength_13 : decode prog_41_method_131_code 13 = .ok (.invokespecial 47, 3) := by decide +kernel
theorem d_Arrays_checkLength_16 : decode prog_41_method_131_code 16 = .ok (.iload_n 0, 1) := by decide +kernel
theorem d_Arrays_checkLength_17 : decode prog_41_method_131_code 17 = .ok (.invokevirtual 54, 3) := by decide +kernel
theorem d_Arrays_checkLength_20 : decode prog_41_method_131_code 20 = .ok (.ldc_w 337, 3) := by decide +kernel
theorem d_Arrays_checkLength_23 : decode prog_41_method_131_code 23 = .ok (.invokevirtual 50, 3) := by decide +kernel
theorem d_Arrays_checkLength_26 : decode prog_41_method_131_code 26 = .ok (.iload_n 1, 1) := by decide +kernel
theorem d_Arrays_checkLength_27 : decode prog_41_method_131_code 27 = .ok (.invokevirtual 54, 3) := by decide +kernel
theorem d_Arrays_checkLength_30 : decode prog_41_method_131_code 30 = .ok (.invokevirtual 61, 3) := by decide +kernel
theorem d_Arrays_checkLength_33 : decode prog_41_method_131_code 33 = .ok (.invokespecial 65, 3) := by decide +kernel
theorem d_Arrays_checkLength_36 : decode prog_41_method_131_code 36 = .ok (.athrow, 1) := by decide +kernel
theorem d_Arrays_checkLength_37 : decode prog_41_method_131_code 37 = .ok (.return_, 1) := by decide +kernel
set_option maxHeartbeats 4000000 in
set_option maxRecDepth 20000 in
theorem c_Arrays_checkLength {P : xP} {F : xF} {z : Nat} {a : Nat} {e : Nat}  (h1 : a ≤ e ∧ e ≤ 9000) : xM P xy_Arrays_checkLength [.int (nI (a)), .int (nI (e))] F (z) 0 0 (fun r9 F9 z9 => r9 = none ∧ F9 = F ∧ z9 = z) := by
  refine xM_v (by decide +kernel) (Nat.le_of_ble_eq_true rfl) (L0 := [some (.int (nI (a))), some (.int (nI (e)))]) rfl rfl fun Θ hC hin hret => ?_
  refine x_iload_n hC d_Arrays_checkLength_0 rfl rfl ?_
  refine x_iload_n hC d_Arrays_checkLength_1 rfl rfl ?_
  refine x_icmpN_ge hC d_Arrays_checkLength_2 (tgt := 37) (by decide) (by omega) (by omega) (fun c_2 => ?_) (fun c_2 => ?_)
  · skip
    exact hret _ _ _ _ _ _ d_Arrays_checkLength_37 (by decide) (by decide) (⟨rfl, rfl, rfl⟩)
  · skip
    exact absurd c_2 (by omega)

theorem d_Arrays_copyOfRangeByte_0 : decode prog_41_method_133_code 0 = .ok (.iload_n 1, 1) := by decide +kernel
theorem d_Arrays_copyOfRangeByte_1 : decode prog_41_method_133_code 1 = .ok (.iload_n 2, 1) := by decide +kernel
theorem d_Arrays_copyOfRangeByte_2 : decode prog_41_method_133_code 2 = .ok (.invokestatic 343, 3) := by decide +kernel
theorem d_Arrays_copyOfRangeByte_5 : decode prog_41_method_133_code 5 = .ok (.iload_n 2, 1) := by decide +kernel
theorem d_Arrays_copyOfRangeByte_6 : decode prog_41_method_133_code 6 = .ok (.iload_n 1, 1) := by decide +kernel
theorem d_Arrays_copyOfRangeByte_7 : decode prog_41_method_133_code 7 = .ok (.isub, 1) := by decide +kernel
theorem d_Arrays_copyOfRangeByte_8 : decode prog_41_method_133_code 8 = .ok (.istore_n 3, 1) := by decide +kernel
theorem d_Arrays_copyOfRangeByte_9 : decode prog_41_method_133_code 9 = .ok (.iload_n 3, 1) := by decide +kernel
theorem d_Arrays_copyOfRangeByte_10 : decode prog_41_method_133_code 10 = .ok (.newarray .byte, 2) := by decide +kernel
theorem d_Arrays_copyOfRangeByte_12 : decode prog_41_method_133_code 12 = .ok (.astore 4, 2) := by decide +kernel
theorem d_Arrays_copyOfRangeByte_14 : decode prog_41_method_133_code 14 = .ok (.aload_n 0, 1) := by decide +kernel
theorem d_Arrays_copyOfRangeByte_15 : decode prog_41_method_133_code 15 = .ok (.iload_n 1, 1) := by decide +kernel
theorem d_Arrays_copyOfRangeByte_16 : decode prog_41_method_133_code 16 = .ok (.aload 4, 2) := by decide +kernel
theorem d_Arrays_copyOfRangeByte_18 : decode prog_41_method_133_code 18 = .ok (.iconst 0, 1) := by decide +kernel
theorem d_Arrays_copyOfRangeByte_19 : decode prog_41_method_133_code 19 = .ok (.aload_n 0, 1) := by decide +kernel
theorem d_Arrays_copyOfRangeByte_20 : decode prog_41_method_133_code 20 = .ok (.arraylength, 1) := by decide +kernel
theorem d_Arrays_copyOfRangeByte_21 : decode prog_41_method_133_code 21 = .ok (.iload_n 1, 1) := by decide +kernel
theorem d_Arrays_copyOfRangeByte_22 : decode prog_41_method_133_code 22 = .ok (.isub, 1) := by decide +kernel
theorem d_Arrays_copyOfRangeByte_23 : decode prog_41_method_133_code 23 = .ok (.iload_n 3, 1) := by decide +kernel
theorem d_Arrays_copyOfRangeByte_24 : decode prog_41_method_133_code 24 = .ok (.invokestatic 304, 3) := by decide +kernel
theorem d_Arrays_copyOfRangeByte_27 : decode prog_41_method_133_code 27 = .ok (.invokestatic 150, 3) := by decide +kernel
theorem d_Arrays_copyOfRangeByte_30 : decode prog_41_method_133_code 30 = .ok (.aload 4, 2) := by decide +kernel
theorem d_Arrays_copyOfRangeByte_32 : decode prog_41_method_133_code 32 = .ok (.areturn, 1) := by decide +kernel
set_option maxHeartbeats 4000000 in
set_option maxRecDepth 20000 in
theorem c_Arrays_copyOfRangeByte {P : xP} {F : xF} {z : Nat} {v : Nat} {c : Nat} {K : Nat} {g : Nat → Nat} (hv : F (v) = some (.inr (2, K, fun b9 => .int (nI (g b9))))) (h1 : c ≤ K ∧ K ≤ 9000) (hg : ∀ j, j < K → g j < 128) (hvz : v < z) : xM P xy_Arrays_copyOfRangeByte [.ref v, .int (nI 0), .int (nI (c))] F (z) 1 c (fun r9 F9 z9 => ∃ g1 : Nat → Nat, r9 = some (.ref z) ∧ z9 = z + 1 ∧ F9 (v) = some (.inr (2, K, fun b9 => .int (nI (g b9)))) ∧ F9 (z) = some (.inr (2, c, fun b9 => .int (nI (g1 b9)))) ∧ (∀ j, j < c → g1 j = g j) ∧ (∀ a9 : Nat, (a9 < z ∨ z + 1 ≤ a9) → F9 a9 = F a9)) := by
  refine xM_a (by decide +kernel) (Nat.le_of_ble_eq_true rfl) (L0 := [some (.ref v), some (.int (nI 0)), some (.int (nI (c))), none, none]) rfl rfl (by simp) fun Θ hC hret => ?_
  have hag : ∀ a9 : Nat, (a9 < z ∨ z + 1 ≤ a9) → F a9 = F a9 := fun a9 _ => rfl
  refine x_iload_n hC d_Arrays_copyOfRangeByte_0 rfl rfl ?_
  refine x_iload_n hC d_Arrays_copyOfRangeByte_1 rfl rfl ?_
  refine x_callS hC ks_Arrays_343 (c_Arrays_checkLength (h1 := by omega)) (by decide) rfl rfl rfl (Nat.le_of_ble_eq_true rfl) ⟨by omega, by omega⟩ d_Arrays_copyOfRangeByte_2 (fun r9 F9 z9 hp9 => ?_)
  obtain ⟨rfl, h9b, h9c⟩ := hp9
  rw [h9b, h9c]
  clear h9b h9c F9 z9
  refine x_iload_n hC d_Arrays_copyOfRangeByte_5 rfl rfl ?_
  refine x_iload_n hC d_Arrays_copyOfRangeByte_6 rfl rfl ?_
  refine x_isub hC d_Arrays_copyOfRangeByte_7 (v := (nI (c))) (pk_sub (by omega)) ?_
  refine x_istore_n hC d_Arrays_copyOfRangeByte_8 rfl (Nat.le_of_ble_eq_true rfl) (L1 := [some (.ref v), some (.int (nI 0)), some (.int (nI (c))), some (.int (nI (c))), none]) rfl ?_
  refine x_iload_n hC d_Arrays_copyOfRangeByte_9 rfl rfl ?_
  refine x_newa hC (t := 2) rfl (by decide) (by decide) (x_in (x_of (xtb_2 (List.mem_of_getElem? (i := 192) (by decide +kernel)))) (by decide +kernel)) rfl (by omega) (xt_nb (by omega)) ⟨by omega, by omega⟩ (f1 := fun b9 => .int (nI ((fun _ => 0) b9))) rfl d_Arrays_copyOfRangeByte_10 ?_
  generalize e1 : xup F (z) (.inr (2, c, fun b9 => .int (nI ((fun _ => 0) b9)))) = F1
  have hv : F1 (v) = some (.inr (2, K, fun b9 => .int (nI (g b9)))) := by rw [← e1]; exact (xup_ne (by omega)).trans hv
  have hn : F1 (z) = some (.inr (2, c, fun b9 => .int (nI ((fun _ => 0) b9)))) := by rw [← e1]; exact xup_eq
  have hag : ∀ a9 : Nat, (a9 < z ∨ z + 1 ≤ a9) → F1 a9 = F a9 := fun a9 q0 => by rw [← e1]; exact (xup_ne (by omega)).trans (hag a9 q0)
  refine x_astore hC d_Arrays_copyOfRangeByte_12 (Nat.le_of_ble_eq_true rfl) (L1 := [some (.ref v), some (.int (nI 0)), some (.int (nI (c))), some (.int (nI (c))), some (.ref z)]) rfl ?_
  refine x_aload_n hC d_Arrays_copyOfRangeByte_14 rfl rfl ?_
  refine x_iload_n hC d_Arrays_copyOfRangeByte_15 rfl rfl ?_
  refine x_aload hC d_Arrays_copyOfRangeByte_16 rfl ?_
  refine x_iconst hC d_Arrays_copyOfRangeByte_18 (v := nI 0) (by decide) ?_
  refine x_aload_n hC d_Arrays_copyOfRangeByte_19 rfl rfl ?_
  refine x_alen hC hv (by decide) rfl d_Arrays_copyOfRangeByte_20 ?_
  refine x_iload_n hC d_Arrays_copyOfRangeByte_21 rfl rfl ?_
  refine x_isub hC d_Arrays_copyOfRangeByte_22 (v := (nI (K))) (pk_sub (by omega)) ?_
  refine x_iload_n hC d_Arrays_copyOfRangeByte_23 rfl rfl ?_
  refine x_mminN hC km_Arrays_304 (by omega) (by omega) rfl (by decide) (Nat.le_of_ble_eq_true rfl) ⟨by omega, by omega⟩ d_Arrays_copyOfRangeByte_24 (v := c) (show (if c < K then c else K) = c by split <;> omega) ?_
  refine x_copyN hC kac_Arrays_150 (sp := 0) (dp := 0) (m := c) hv hn (by omega) (by omega) (by omega) (by omega) (by omega) (fun i hi => by rw [Nat.zero_add]; exact hg i (by omega)) rfl (by decide) (Nat.le_of_ble_eq_true rfl) d_Arrays_copyOfRangeByte_27 ?_
  generalize eg1 : va_cpy g ((fun _ => 0)) (0) (0) (c) = g1
  generalize e3 : xup F1 (z) (.inr (2, c, fun b9 => .int (nI (g1 b9)))) = F3
  have hv : F3 (v) = some (.inr (2, K, fun b9 => .int (nI (g b9)))) := by rw [← e3]; exact (xup_ne (by omega)).trans hv
  have hn : F3 (z) = some (.inr (2, c, fun b9 => .int (nI (g1 b9)))) := by rw [← e3]; exact xup_eq
  have hag : ∀ a9 : Nat, (a9 < z ∨ z + 1 ≤ a9) → F3 a9 = F a9 := fun a9 q0 => by rw [← e3]; exact (xup_ne (by omega)).trans (hag a9 q0)
  refine x_aload hC d_Arrays_copyOfRangeByte_30 rfl ?_
  exact hret _ _ _ _ _ _ _ d_Arrays_copyOfRangeByte_32 (by decide) (by omega) (Or.inr ⟨_, rfl⟩) (⟨g1, rfl, rfl, hv, hn, fun j hj => by rw [← eg1, va_cpy, if_pos (by omega), Nat.zero_add, Nat.sub_zero], hag⟩)

theorem d_Arrays_copyOfRange_0 : decode prog_41_method_132_code 0 = .ok (.iload_n 1, 1) := by decide +kernel
theorem d_Arrays_copyOfRange_1 : decode prog_41_method_132_code 1 = .ok (.ifCond .ne 9, 3) := by decide +kernel
theorem d_Arrays_copyOfRange_4 : decode prog_41_method_132_code 4 = .ok (.iload_n 2, 1) := by decide +kernel
theorem d_Arrays_copyOfRange_5 : decode prog_41_method_132_code 5 = .ok (.aload_n 0, 1) := by decide +kernel
theorem d_Arrays_copyOfRange_6 : decode prog_41_method_132_code 6 = .ok (.arraylength, 1) := by decide +kernel
theorem d_Arrays_copyOfRange_7 : decode prog_41_method_132_code 7 = .ok (.if_icmp .eq 10, 3) := by decide +kernel
theorem d_Arrays_copyOfRange_10 : decode prog_41_method_132_code 10 = .ok (.aload_n 0, 1) := by decide +kernel
theorem d_Arrays_copyOfRange_11 : decode prog_41_method_132_code 11 = .ok (.iload_n 1, 1) := by decide +kernel
theorem d_Arrays_copyOfRange_12 : decode prog_41_method_132_code 12 = .ok (.iload_n 2, 1) := by decide +kernel
theorem d_Arrays_copyOfRange_13 : decode prog_41_method_132_code 13 = .ok (.invokestatic 339, 3) := by decide +kernel
theorem d_Arrays_copyOfRange_16 : decode prog_41_method_132_code 16 = .ok (.areturn, 1) := by decide +kernel
theorem d_Arrays_copyOfRange_17 : decode prog_41_method_132_code 17 = .ok (.aload_n 0, 1) := by decide +kernel
theorem d_Arrays_copyOfRange_18 : decode prog_41_method_132_code 18 = .ok (.invokevirtual 310, 3) := by decide +kernel
theorem d_Arrays_copyOfRange_21 : decode prog_41_method_132_code 21 = .ok (.checkcast 311, 3) := by decide +kernel
theorem d_Arrays_copyOfRange_24 : decode prog_41_method_132_code 24 = .ok (.areturn, 1) := by decide +kernel
set_option maxHeartbeats 4000000 in
set_option maxRecDepth 20000 in
theorem c_Arrays_copyOfRange {P : xP} {F : xF} {z : Nat} {v : Nat} {c : Nat} {K : Nat} {g : Nat → Nat} (hv : F (v) = some (.inr (2, K, fun b9 => .int (nI (g b9))))) (h1 : c ≤ K ∧ K ≤ 9000) (hg : ∀ j, j < K → g j < 128) (hvz : v < z) : xM P xy_Arrays_copyOfRange [.ref v, .int (nI 0), .int (nI (c))] F (z) 1 c (fun r9 F9 z9 => ∃ g1 : Nat → Nat, r9 = some (.ref z) ∧ z9 = z + 1 ∧ F9 (v) = some (.inr (2, K, fun b9 => .int (nI (g b9)))) ∧ F9 (z) = some (.inr (2, c, fun b9 => .int (nI (g1 b9)))) ∧ (∀ j, j < c → g1 j = g j) ∧ (∀ a9 : Nat, (a9 < z ∨ z + 1 ≤ a9) → F9 a9 = F a9)) := by
  refine xM_a (by decide +kernel) (Nat.le_of_ble_eq_true rfl) (L0 := [some (.ref v), some (.int (nI 0)), some (.int (nI (c)))]) rfl rfl (by simp) fun Θ hC hret => ?_
  have hag : ∀ a9 : Nat, (a9 < z ∨ z + 1 ≤ a9) → F a9 = F a9 := fun a9 _ => rfl
  refine x_iload_n hC d_Arrays_copyOfRange_0 rfl rfl ?_
  refine x_ifN_ne hC d_Arrays_copyOfRange_1 (tgt := 10) (by decide) (by omega) (fun c_1 => ?_) (fun c_1 => ?_)
  · skip
    exact absurd c_1 (by omega)
  · skip
    refine x_iload_n hC d_Arrays_copyOfRange_4 rfl rfl ?_
    refine x_aload_n hC d_Arrays_copyOfRange_5 rfl rfl ?_
    refine x_alen hC hv (by decide) rfl d_Arrays_copyOfRange_6 ?_
    refine x_icmpN_eq hC d_Arrays_copyOfRange_7 (tgt := 17) (by decide) (by omega) (by omega) (fun c_7 => ?_) (fun c_7 => ?_)
    · skip
      obtain rfl : K = c := by omega
      refine x_aload_n hC d_Arrays_copyOfRange_17 rfl rfl ?_
      refine x_cloneB hC kcl_Arrays_310 hv (hg) rfl (by decide) (Nat.le_of_ble_eq_true rfl) ⟨by omega, by omega⟩ d_Arrays_copyOfRange_18 ?_
      generalize e1 : xup F (z) (.inr (2, K, fun b9 => .int (nI (g b9)))) = F1
      have hv : F1 (v) = some (.inr (2, K, fun b9 => .int (nI (g b9)))) := by rw [← e1]; exact (xup_ne (by omega)).trans hv
      have hn : F1 (z) = some (.inr (2, K, fun b9 => .int (nI (g b9)))) := by rw [← e1]; exact xup_eq
      have hag : ∀ a9 : Nat, (a9 < z ∨ z + 1 ≤ a9) → F1 a9 = F a9 := fun a9 q0 => by rw [← e1]; exact (xup_ne (by omega)).trans (hag a9 q0)
      refine x_castB hC kcb_Arrays_311 hn d_Arrays_copyOfRange_21 ?_
      exact hret _ _ _ _ _ _ _ d_Arrays_copyOfRange_24 (by decide) (by omega) (Or.inr ⟨_, rfl⟩) (⟨g, rfl, rfl, hv, hn, fun _ _ => rfl, hag⟩)
    · skip
      refine x_aload_n hC d_Arrays_copyOfRange_10 rfl rfl ?_
      refine x_iload_n hC d_Arrays_copyOfRange_11 rfl rfl ?_
      refine x_iload_n hC d_Arrays_copyOfRange_12 rfl rfl ?_
      refine x_callS hC ks_Arrays_339 (c_Arrays_copyOfRangeByte (hv := hv) (h1 := h1) (hg := hg) (hvz := hvz)) (by decide) rfl rfl rfl (Nat.le_of_ble_eq_true rfl) ⟨by omega, by omega⟩ d_Arrays_copyOfRange_13 (fun r9 F9 z9 hp9 => ?_)
      obtain ⟨g1, rfl, h9c, j0, j1, pk_13, hag9⟩ := hp9
      rw [h9c]
      clear h9c z9
      generalize F9 = F2 at *
      have hv : F2 (v) = some (.inr (2, K, fun b9 => .int (nI (g b9)))) := j0
      have hn : F2 (z) = some (.inr (2, c, fun b9 => .int (nI (g1 b9)))) := j1
      have hag : ∀ a9 : Nat, (a9 < z ∨ z + 1 ≤ a9) → F2 a9 = F a9 := fun a9 q0 => (hag9 a9 (by omega)).trans (hag a9 q0)
      have hg_13 := hag9
      clear hag9
      exact hret _ _ _ _ _ _ _ d_Arrays_copyOfRange_16 (by decide) (by omega) (Or.inr ⟨_, rfl⟩) (⟨g1, rfl, rfl, hv, hn, pk_13, hag⟩)

theorem d_String_init_AbstractStringBuilderVoid_0 : decode prog_33_method_150_code 0 = .ok (.aload_n 0, 1) := by decide +kernel
theorem d_String_init_AbstractStringBuilderVoid_1 : decode prog_33_method_150_code 1 = .ok (.invokespecial 1, 3) := by decide +kernel
theorem d_String_init_AbstractStringBuilderVoid_4 : decode prog_33_method_150_code 4 = .ok (.aload_n 1, 1) := by decide +kernel
theorem d_String_init_AbstractStringBuilderVoid_5 : decode prog_33_method_150_code 5 = .ok (.invokevirtual 552, 3) := by decide +kernel
theorem d_String_init_AbstractStringBuilderVoid_8 : decode prog_33_method_150_code 8 = .ok (.astore_n 3, 1) := by decide +kernel
theorem d_String_init_AbstractStringBuilderVoid_9 : decode prog_33_method_150_code 9 = .ok (.aload_n 1, 1) := by decide +kernel
theorem d_String_init_AbstractStringBuilderVoid_10 : decode prog_33_method_150_code 10 = .ok (.invokevirtual 549, 3) := by decide +kernel
theorem d_String_init_AbstractStringBuilderVoid_13 : decode prog_33_method_150_code 13 = .ok (.istore 4, 2) := by decide +kernel
theorem d_String_init_AbstractStringBuilderVoid_15 : decode prog_33_method_150_code 15 = .ok (.aload_n 1, 1) := by decide +kernel
theorem d_String_init_AbstractStringBuilderVoid_16 : decode prog_33_method_150_code 16 = .ok (.invokevirtual 1047, 3) := by decide +kernel
theorem d_String_init_AbstractStringBuilderVoid_19 : decode prog_33_method_150_code 19 = .ok (.ifCond .eq 22, 3) := by decide +kernel
theorem d_String_init_AbstractStringBuilderVoid_22 : decode prog_33_method_150_code 22 = .ok (.aload_n 0, 1) := by decide +kernel
theorem d_String_init_AbstractStringBuilderVoid_23 : decode prog_33_method_150_code 23 = .ok (.iconst 0, 1) := by decide +kernel
theorem d_String_init_AbstractStringBuilderVoid_24 : decode prog_33_method_150_code 24 = .ok (.putfield 15, 3) := by decide +kernel
theorem d_String_init_AbstractStringBuilderVoid_27 : decode prog_33_method_150_code 27 = .ok (.aload_n 0, 1) := by decide +kernel
theorem d_String_init_AbstractStringBuilderVoid_28 : decode prog_33_method_150_code 28 = .ok (.aload_n 3, 1) := by decide +kernel
theorem d_String_init_AbstractStringBuilderVoid_29 : decode prog_33_method_150_code 29 = .ok (.iconst 0, 1) := by decide +kernel
theorem d_String_init_AbstractStringBuilderVoid_30 : decode prog_33_method_150_code 30 = .ok (.iload 4, 2) := by decide +kernel
theorem d_String_init_AbstractStringBuilderVoid_32 : decode prog_33_method_150_code 32 = .ok (.invokestatic 54, 3) := by decide +kernel
theorem d_String_init_AbstractStringBuilderVoid_35 : decode prog_33_method_150_code 35 = .ok (.putfield 9, 3) := by decide +kernel
theorem d_String_init_AbstractStringBuilderVoid_38 : decode prog_33_method_150_code 38 = .ok (.goto 59, 3) := by decide +kernel
theorem d_String_init_AbstractStringBuilderVoid_41 : decode prog_33_method_150_code 41 = .ok (.getstatic 38, 3) := by decide +kernel
theorem d_String_init_AbstractStringBuilderVoid_44 : decode prog_33_method_150_code 44 = .ok (.ifCond .eq 35, 3) := by decide +kernel
theorem d_String_init_AbstractStringBuilderVoid_47 : decode prog_33_method_150_code 47 = .ok (.aload_n 1, 1) := by decide +kernel
theorem d_String_init_AbstractStringBuilderVoid_48 : decode prog_33_method_150_code 48 = .ok (.getfield 1048, 3) := by decide +kernel
theorem d_String_init_AbstractStringBuilderVoid_51 : decode prog_33_method_150_code 51 = .ok (.ifCond .eq 28, 3) := by decide +kernel
theorem d_String_init_AbstractStringBuilderVoid_54 : decode prog_33_method_150_code 54 = .ok (.aload_n 0, 1) := by decide +kernel
theorem d_String_init_AbstractStringBuilderVoid_55 : decode prog_33_method_150_code 55 = .ok (.aload_n 3, 1) := by decide +kernel
theorem d_String_init_AbstractStringBuilderVoid_56 : decode prog_33_method_150_code 56 = .ok (.iconst 0, 1) := by decide +kernel
theorem d_String_init_AbstractStringBuilderVoid_57 : decode prog_33_method_150_code 57 = .ok (.iload 4, 2) := by decide +kernel
theorem d_String_init_AbstractStringBuilderVoid_59 : decode prog_33_method_150_code 59 = .ok (.invokestatic 1051, 3) := by decide +kernel
theorem d_String_init_AbstractStringBuilderVoid_62 : decode prog_33_method_150_code 62 = .ok (.putfield 9, 3) := by decide +kernel
theorem d_String_init_AbstractStringBuilderVoid_65 : decode prog_33_method_150_code 65 = .ok (.aload_n 0, 1) := by decide +kernel
theorem d_String_init_AbstractStringBuilderVoid_66 : decode prog_33_method_150_code 66 = .ok (.aload_n 0, 1) := by decide +kernel
theorem d_String_init_AbstractStringBuilderVoid_67 : decode prog_33_method_150_code 67 = .ok (.getfield 9, 3) := by decide +kernel
theorem d_String_init_AbstractStringBuilderVoid_70 : decode prog_33_method_150_code 70 = .ok (.iload 4, 2) := by decide +kernel
theorem d_String_init_AbstractStringBuilderVoid_72 : decode prog_33_method_150_code 72 = .ok (.invokestatic 47, 3) := by decide +kernel
theorem d_String_init_AbstractStringBuilderVoid_75 : decode prog_33_method_150_code 75 = .ok (.putfield 15, 3) := by decide +kernel
theorem d_String_init_AbstractStringBuilderVoid_78 : decode prog_33_method_150_code 78 = .ok (.return_, 1) := by decide +kernel
theorem d_String_init_AbstractStringBuilderVoid_79 : decode prog_33_method_150_code 79 = .ok (.aload_n 0, 1) := by decide +kernel
theorem d_String_init_AbstractStringBuilderVoid_80 : decode prog_33_method_150_code 80 = .ok (.iconst 1, 1) := by decide +kernel
theorem d_String_init_AbstractStringBuilderVoid_81 : decode prog_33_method_150_code 81 = .ok (.putfield 15, 3) := by decide +kernel
theorem d_String_init_AbstractStringBuilderVoid_84 : decode prog_33_method_150_code 84 = .ok (.aload_n 0, 1) := by decide +kernel
theorem d_String_init_AbstractStringBuilderVoid_85 : decode prog_33_method_150_code 85 = .ok (.aload_n 3, 1) := by decide +kernel
theorem d_String_init_AbstractStringBuilderVoid_86 : decode prog_33_method_150_code 86 = .ok (.iconst 0, 1) := by decide +kernel
theorem d_String_init_AbstractStringBuilderVoid_87 : decode prog_33_method_150_code 87 = .ok (.iload 4, 2) := by decide +kernel
theorem d_String_init_AbstractStringBuilderVoid_89 : decode prog_33_method_150_code 89 = .ok (.iconst 1, 1) := by decide +kernel
theorem d_String_init_AbstractStringBuilderVoid_90 : decode prog_33_method_150_code 90 = .ok (.ishl, 1) := by decide +kernel
theorem d_String_init_AbstractStringBuilderVoid_91 : decode prog_33_method_150_code 91 = .ok (.invokestatic 54, 3) := by decide +kernel
theorem d_String_init_AbstractStringBuilderVoid_94 : decode prog_33_method_150_code 94 = .ok (.putfield 9, 3) := by decide +kernel
theorem d_String_init_AbstractStringBuilderVoid_97 : decode prog_33_method_150_code 97 = .ok (.return_, 1) := by decide +kernel
set_option maxHeartbeats 4000000 in
set_option maxRecDepth 20000 in
theorem c_String_init_AbstractStringBuilderVoid {P : xP} {F : xF} {z : Nat} {s : Nat} {b : Nat} {v : Nat} {c : Nat} {fo : Nat} {K : Nat} {g : Nat → Nat} (hs : F (s) = some (.inl (11, [.null, .int (nI 0), .int (nI 0), .int (nI 0)]))) (hb : F (b) = some (.inl (10, [.ref v, .int (nI 0), .int (nI 0), .int (nI (c))]))) (hv : F (v) = some (.inr (2, K, fun b9 => .int (nI (g b9))))) (hJ : xJd P fo) (h1 : c ≤ K ∧ K ≤ 9000) (hg : ∀ j, j < K → g j < 128) (hvz : v < z ∧ b < z ∧ s < z ∧ s ≠ b ∧ s ≠ v) : xM P xy_String_init_AbstractStringBuilderVoid [.ref s, .ref b, .null] F (z) 1 c (fun r9 F9 z9 => ∃ g1 : Nat → Nat, r9 = none ∧ z9 = z + 1 ∧ F9 (s) = some (.inl (11, [.ref z, .int (nI 0), .int (nI 0), .int (nI 0)])) ∧ F9 (z) = some (.inr (2, c, fun b9 => .int (nI (g1 b9)))) ∧ (∀ j, j < c → g1 j = g j) ∧ (∀ a9 : Nat, (a9 < s ∨ s + 1 ≤ a9) → (a9 < z ∨ z + 1 ≤ a9) → F9 a9 = F a9)) := by
  refine xM_v (by decide +kernel) (Nat.le_of_ble_eq_true rfl) (L0 := [some (.ref s), some (.ref b), some (.null), none, none]) rfl rfl fun Θ hC hin hret => ?_
  have hag : ∀ a9 : Nat, (a9 < s ∨ s + 1 ≤ a9) → (a9 < z ∨ z + 1 ≤ a9) → F a9 = F a9 := fun a9 _ _ => rfl
  refine x_aload_n hC d_String_init_AbstractStringBuilderVoid_0 rfl rfl ?_
  refine x_objInit hC ko_String_1 rfl (by decide) (Nat.le_of_ble_eq_true rfl) d_String_init_AbstractStringBuilderVoid_1 ?_
  refine x_aload_n hC d_String_init_AbstractStringBuilderVoid_4 rfl rfl ?_
  refine x_callU hC ku_String_552 (c_AbstractStringBuilder_getValue (hb := hb)) hb rfl (by decide) rfl rfl rfl (Nat.le_of_ble_eq_true rfl) ⟨by omega, by omega⟩ d_String_init_AbstractStringBuilderVoid_5 (fun r9 F9 z9 hp9 => ?_)
  obtain ⟨rfl, h9b, h9c⟩ := hp9
  rw [h9b, h9c]
  clear h9b h9c F9 z9
  refine x_astore_n hC d_String_init_AbstractStringBuilderVoid_8 rfl (Nat.le_of_ble_eq_true rfl) (L1 := [some (.ref s), some (.ref b), some (.null), some (.ref v), none]) rfl ?_
  refine x_aload_n hC d_String_init_AbstractStringBuilderVoid_9 rfl rfl ?_
  refine x_callU hC ku_String_549 (c_StringBuilder_length (hb := hb)) hb rfl (by decide) rfl rfl rfl (Nat.le_of_ble_eq_true rfl) ⟨by omega, by omega⟩ d_String_init_AbstractStringBuilderVoid_10 (fun r9 F9 z9 hp9 => ?_)
  obtain ⟨rfl, h9b, h9c⟩ := hp9
  rw [h9b, h9c]
  clear h9b h9c F9 z9
  refine x_istore hC d_String_init_AbstractStringBuilderVoid_13 (Nat.le_of_ble_eq_true rfl) (L1 := [some (.ref s), some (.ref b), some (.null), some (.ref v), some (.int (nI (c)))]) rfl ?_
  refine x_aload_n hC d_String_init_AbstractStringBuilderVoid_15 rfl rfl ?_
  refine x_callU hC ku_String_1047 (c_AbstractStringBuilder_isLatin1 (hb := hb) (hJ := hJ) (fo := fo)) hb rfl (by decide) rfl rfl rfl (Nat.le_of_ble_eq_true rfl) ⟨by omega, by omega⟩ d_String_init_AbstractStringBuilderVoid_16 (fun r9 F9 z9 hp9 => ?_)
  obtain ⟨rfl, h9b, h9c⟩ := hp9
  rw [h9b, h9c]
  clear h9b h9c F9 z9
  refine x_ifN_eq hC d_String_init_AbstractStringBuilderVoid_19 (tgt := 41) (by decide) (by omega) (fun c_19 => ?_) (fun c_19 => ?_)
  · skip
    exact absurd c_19 (by omega)
  · skip
    refine x_aload_n hC d_String_init_AbstractStringBuilderVoid_22 rfl rfl ?_
    refine x_iconst hC d_String_init_AbstractStringBuilderVoid_23 (v := nI 0) (by decide) ?_
    refine x_putF hC hin kk_String_15 hs (Nat.le_of_ble_eq_true rfl) rfl rfl d_String_init_AbstractStringBuilderVoid_24 (fs1 := [.null, .int (nI 0), .int (nI 0), .int (nI 0)]) rfl ?_
    generalize e1 : xup F (s) (.inl (11, [.null, .int (nI 0), .int (nI 0), .int (nI 0)])) = F1
    have hs : F1 (s) = some (.inl (11, [.null, .int (nI 0), .int (nI 0), .int (nI 0)])) := by rw [← e1]; exact xup_eq
    have hb : F1 (b) = some (.inl (10, [.ref v, .int (nI 0), .int (nI 0), .int (nI (c))])) := by rw [← e1]; exact (xup_ne (by omega)).trans hb
    have hv : F1 (v) = some (.inr (2, K, fun b9 => .int (nI (g b9)))) := by rw [← e1]; exact (xup_ne (by omega)).trans hv
    have hag : ∀ a9 : Nat, (a9 < s ∨ s + 1 ≤ a9) → (a9 < z ∨ z + 1 ≤ a9) → F1 a9 = F a9 := fun a9 q0 q1 => by rw [← e1]; exact (xup_ne (by omega)).trans (hag a9 q0 q1)
    refine x_aload_n hC d_String_init_AbstractStringBuilderVoid_27 rfl rfl ?_
    refine x_aload_n hC d_String_init_AbstractStringBuilderVoid_28 rfl rfl ?_
    refine x_iconst hC d_String_init_AbstractStringBuilderVoid_29 (v := nI 0) (by decide) ?_
    refine x_iload hC d_String_init_AbstractStringBuilderVoid_30 rfl ?_
    refine x_callS hC ks_String_54 (c_Arrays_copyOfRange (hv := hv) (h1 := h1) (hg := hg) (hvz := by omega)) (by decide) rfl rfl rfl (Nat.le_of_ble_eq_true rfl) ⟨by omega, by omega⟩ d_String_init_AbstractStringBuilderVoid_32 (fun r9 F9 z9 hp9 => ?_)
    obtain ⟨g1, rfl, h9c, j0, j1, pk_32, hag9⟩ := hp9
    rw [h9c]
    clear h9c z9
    generalize F9 = F2 at *
    have hs : F2 (s) = some (.inl (11, [.null, .int (nI 0), .int (nI 0), .int (nI 0)])) := (hag9 _ (by omega)).trans hs
    have hb : F2 (b) = some (.inl (10, [.ref v, .int (nI 0), .int (nI 0), .int (nI (c))])) := (hag9 _ (by omega)).trans hb
    have hv : F2 (v) = some (.inr (2, K, fun b9 => .int (nI (g b9)))) := j0
    have hn : F2 (z) = some (.inr (2, c, fun b9 => .int (nI (g1 b9)))) := j1
    have hag : ∀ a9 : Nat, (a9 < s ∨ s + 1 ≤ a9) → (a9 < z ∨ z + 1 ≤ a9) → F2 a9 = F a9 := fun a9 q0 q1 => (hag9 a9 (by omega)).trans (hag a9 q0 q1)
    have hg_32 := hag9
    clear hag9
    refine x_putF hC hin kk_String_9 hs (Nat.le_of_ble_eq_true rfl) rfl rfl d_String_init_AbstractStringBuilderVoid_35 (fs1 := [.ref z, .int (nI 0), .int (nI 0), .int (nI 0)]) rfl ?_
    generalize e3 : xup F2 (s) (.inl (11, [.ref z, .int (nI 0), .int (nI 0), .int (nI 0)])) = F3
    have hs : F3 (s) = some (.inl (11, [.ref z, .int (nI 0), .int (nI 0), .int (nI 0)])) := by rw [← e3]; exact xup_eq
    have hb : F3 (b) = some (.inl (10, [.ref v, .int (nI 0), .int (nI 0), .int (nI (c))])) := by rw [← e3]; exact (xup_ne (by omega)).trans hb
    have hv : F3 (v) = some (.inr (2, K, fun b9 => .int (nI (g b9)))) := by rw [← e3]; exact (xup_ne (by omega)).trans hv
    have hn : F3 (z) = some (.inr (2, c, fun b9 => .int (nI (g1 b9)))) := by rw [← e3]; exact (xup_ne (by omega)).trans hn
    have hag : ∀ a9 : Nat, (a9 < s ∨ s + 1 ≤ a9) → (a9 < z ∨ z + 1 ≤ a9) → F3 a9 = F a9 := fun a9 q0 q1 => by rw [← e3]; exact (xup_ne (by omega)).trans (hag a9 q0 q1)
    refine x_goto hC d_String_init_AbstractStringBuilderVoid_38 (tgt := 97) (by decide) ?_
    exact hret _ _ _ _ _ _ d_String_init_AbstractStringBuilderVoid_97 (by decide) (by omega) (⟨g1, rfl, rfl, hs, hn, pk_32, hag⟩)

theorem d_String_init_StringBuilder_0 : decode prog_33_method_53_code 0 = .ok (.aload_n 0, 1) := by decide +kernel
theorem d_String_init_StringBuilder_1 : decode prog_33_method_53_code 1 = .ok (.aload_n 1, 1) := by decide +kernel
theorem d_String_init_StringBuilder_2 : decode prog_33_method_53_code 2 = .ok (.aconst_null, 1) := by decide +kernel
theorem d_String_init_StringBuilder_3 : decode prog_33_method_53_code 3 = .ok (.invokespecial 489, 3) := by decide +kernel
theorem d_String_init_StringBuilder_6 : decode prog_33_method_53_code 6 = .ok (.return_, 1) := by decide +kernel
set_option maxHeartbeats 4000000 in
set_option maxRecDepth 20000 in
theorem c_String_init_StringBuilder {P : xP} {F : xF} {z : Nat} {s : Nat} {b : Nat} {v : Nat} {c : Nat} {fo : Nat} {K : Nat} {g : Nat → Nat} (hs : F (s) = some (.inl (11, [.null, .int (nI 0), .int (nI 0), .int (nI 0)]))) (hb : F (b) = some (.inl (10, [.ref v, .int (nI 0), .int (nI 0), .int (nI (c))]))) (hv : F (v) = some (.inr (2, K, fun b9 => .int (nI (g b9))))) (hJ : xJd P fo) (h1 : c ≤ K ∧ K ≤ 9000) (hg : ∀ j, j < K → g j < 128) (hvz : v < z ∧ b < z ∧ s < z ∧ s ≠ b ∧ s ≠ v) : xM P xy_String_init_StringBuilder [.ref s, .ref b] F (z) 1 c (fun r9 F9 z9 => ∃ g1 : Nat → Nat, r9 = none ∧ z9 = z + 1 ∧ F9 (s) = some (.inl (11, [.ref z, .int (nI 0), .int (nI 0), .int (nI 0)])) ∧ F9 (z) = some (.inr (2, c, fun b9 => .int (nI (g1 b9)))) ∧ (∀ j, j < c → g1 j = g j) ∧ (∀ a9 : Nat, (a9 < s ∨ s + 1 ≤ a9) → (a9 < z ∨ z + 1 ≤ a9) → F9 a9 = F a9)) := by
  refine xM_v (by decide +kernel) (Nat.le_of_ble_eq_true rfl) (L0 := [some (.ref s), some (.ref b)]) rfl rfl fun Θ hC hin hret => ?_
  have hag : ∀ a9 : Nat, (a9 < s ∨ s + 1 ≤ a9) → (a9 < z ∨ z + 1 ≤ a9) → F a9 = F a9 := fun a9 _ _ => rfl
  refine x_aload_n hC d_String_init_StringBuilder_0 rfl rfl ?_
  refine x_aload_n hC d_String_init_StringBuilder_1 rfl rfl ?_
  refine x_null hC d_String_init_StringBuilder_2 ?_
  refine x_callI hC ki_String_489 rfl (c_String_init_AbstractStringBuilderVoid (hs := hs) (hb := hb) (hv := hv) (hJ := hJ) (h1 := h1) (hg := hg) (hvz := hvz) (fo := fo)) (by decide) rfl rfl rfl (Nat.le_of_ble_eq_true rfl) ⟨by omega, by omega⟩ d_String_init_StringBuilder_3 (fun r9 F9 z9 hp9 => ?_)
  obtain ⟨g1, rfl, h9c, j0, j1, pk_3, hag9⟩ := hp9
  rw [h9c]
  clear h9c z9
  generalize F9 = F1 at *
  have hb : F1 (b) = some (.inl (10, [.ref v, .int (nI 0), .int (nI 0), .int (nI (c))])) := (hag9 _ (by omega) (by omega)).trans hb
  have hv : F1 (v) = some (.inr (2, K, fun b9 => .int (nI (g b9)))) := (hag9 _ (by omega) (by omega)).trans hv
  have hs : F1 (s) = some (.inl (11, [.ref z, .int (nI 0), .int (nI 0), .int (nI 0)])) := j0
  have hn : F1 (z) = some (.inr (2, c, fun b9 => .int (nI (g1 b9)))) := j1
  have hag : ∀ a9 : Nat, (a9 < s ∨ s + 1 ≤ a9) → (a9 < z ∨ z + 1 ≤ a9) → F1 a9 = F a9 := fun a9 q0 q1 => (hag9 a9 (by omega) (by omega)).trans (hag a9 q0 q1)
  have hg_3 := hag9
  clear hag9
  exact hret _ _ _ _ _ _ d_String_init_StringBuilder_6 (by decide) (by omega) (⟨g1, rfl, rfl, hs, hn, pk_3, hag⟩)

theorem d_StringBuilder_toString_0 : decode prog_34_method_42_code 0 = .ok (.new 18, 3) := by decide +kernel
theorem d_StringBuilder_toString_3 : decode prog_34_method_42_code 3 = .ok (.dup, 1) := by decide +kernel
theorem d_StringBuilder_toString_4 : decode prog_34_method_42_code 4 = .ok (.aload_n 0, 1) := by decide +kernel
theorem d_StringBuilder_toString_5 : decode prog_34_method_42_code 5 = .ok (.invokespecial 137, 3) := by decide +kernel
theorem d_StringBuilder_toString_8 : decode prog_34_method_42_code 8 = .ok (.areturn, 1) := by decide +kernel
set_option maxHeartbeats 4000000 in
set_option maxRecDepth 20000 in
theorem c_StringBuilder_toString {P : xP} {F : xF} {z : Nat} {b : Nat} {v : Nat} {c : Nat} {fo : Nat} {K : Nat} {g : Nat → Nat} (hb : F (b) = some (.inl (10, [.ref v, .int (nI 0), .int (nI 0), .int (nI (c))]))) (hv : F (v) = some (.inr (2, K, fun b9 => .int (nI (g b9))))) (hJ : xJd P fo) (h1 : c ≤ K ∧ c ≤ 450 ∧ K ≤ 9000) (hg : ∀ j, j < K → g j < 128) (hvz : v < z ∧ b < z) : xM P xy_StringBuilder_toString [.ref b] F (z) 2 460 (fun r9 F9 z9 => ∃ g1 : Nat → Nat, r9 = some (.ref z) ∧ z9 = z + 2 ∧ F9 (z) = some (.inl (11, [.ref (z + 1), .int (nI 0), .int (nI 0), .int (nI 0)])) ∧ F9 (z + 1) = some (.inr (2, c, fun b9 => .int (nI (g1 b9)))) ∧ (∀ j, j < c → g1 j = g j) ∧ (∀ a9 : Nat, (a9 < z ∨ z + 2 ≤ a9) → F9 a9 = F a9)) := by
  refine xM_a (by decide +kernel) (Nat.le_of_ble_eq_true rfl) (L0 := [some (.ref b)]) rfl rfl (by simp) fun Θ hC hret => ?_
  have hag : ∀ a9 : Nat, (a9 < z ∨ z + 2 ≤ a9) → F a9 = F a9 := fun a9 _ => rfl
  refine x_new hC (fs := [.null, .int (nI 0), .int (nI 0), .int (nI 0)]) kn_StringBuilder_18 (by decide) d_StringBuilder_toString_0 ?_
  generalize e1 : xup F (z) (.inl (11, [.null, .int (nI 0), .int (nI 0), .int (nI 0)])) = F1
  have hb : F1 (b) = some (.inl (10, [.ref v, .int (nI 0), .int (nI 0), .int (nI (c))])) := by rw [← e1]; exact (xup_ne (by omega)).trans hb
  have hv : F1 (v) = some (.inr (2, K, fun b9 => .int (nI (g b9)))) := by rw [← e1]; exact (xup_ne (by omega)).trans hv
  have hs : F1 (z) = some (.inl (11, [.null, .int (nI 0), .int (nI 0), .int (nI 0)])) := by rw [← e1]; exact xup_eq
  have hag : ∀ a9 : Nat, (a9 < z ∨ z + 2 ≤ a9) → F1 a9 = F a9 := fun a9 q0 => by rw [← e1]; exact (xup_ne (by omega)).trans (hag a9 q0)
  refine x_dup hC d_StringBuilder_toString_3 rfl ?_
  refine x_aload_n hC d_StringBuilder_toString_4 rfl rfl ?_
  refine x_callI hC ki_StringBuilder_137 rfl (c_String_init_StringBuilder (hs := hs) (hb := hb) (hv := hv) (hJ := hJ) (h1 := by omega) (hg := hg) (hvz := by omega) (fo := fo)) (by decide) rfl rfl rfl (Nat.le_of_ble_eq_true rfl) ⟨by omega, by omega⟩ d_StringBuilder_toString_5 (fun r9 F9 z9 hp9 => ?_)
  obtain ⟨g1, rfl, h9c, j0, j1, pk_5, hag9⟩ := hp9
  rw [h9c]
  clear h9c z9
  generalize F9 = F2 at *
  have hb : F2 (b) = some (.inl (10, [.ref v, .int (nI 0), .int (nI 0), .int (nI (c))])) := (hag9 _ (by omega) (by omega)).trans hb
  have hv : F2 (v) = some (.inr (2, K, fun b9 => .int (nI (g b9)))) := (hag9 _ (by omega) (by omega)).trans hv
  have hs : F2 (z) = some (.inl (11, [.ref ((z + 1)), .int (nI 0), .int (nI 0), .int (nI 0)])) := j0
  have hn : F2 (z + 1) = some (.inr (2, c, fun b9 => .int (nI (g1 b9)))) := j1
  have hag : ∀ a9 : Nat, (a9 < z ∨ z + 2 ≤ a9) → F2 a9 = F a9 := fun a9 q0 => (hag9 a9 (by omega) (by omega)).trans (hag a9 q0)
  have hg_5 := hag9
  clear hag9
  exact hret _ _ _ _ _ _ _ d_StringBuilder_toString_8 (by decide) (by omega) (Or.inr ⟨_, rfl⟩) (⟨g1, rfl, rfl, hs, hn, pk_5, hag⟩)

