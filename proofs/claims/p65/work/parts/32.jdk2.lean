/-! numbers as letters; letters of a text; how a text begins -/
theorem xt_nn (a : Nat) : - -nI a = nI a := Int32.neg_neg
theorem xt_negI {a : Nat} (h : a < 2 ^ 30) : (-nI a).toInt = -(a : Int) := by
  have h1 : (nI a).toInt = (a : Int) := nI_toInt (by omega)
  rw [Int32.toInt_neg, h1, Int.bmod_eq_of_le (by omega) (by omega)]
theorem xt_neg_le {a b : Nat} (ha : a < 2 ^ 30) (hb : b < 2 ^ 30) : -nI a ≤ -nI b ↔ b ≤ a := by
  rw [Int32.le_iff_toInt_le, xt_negI ha, xt_negI hb]
  omega
theorem xt_neg_lt {a b : Nat} (ha : a < 2 ^ 30) (hb : b < 2 ^ 30) : -nI a < -nI b ↔ b < a := by
  rw [Int32.lt_iff_toInt_lt, xt_negI ha, xt_negI hb]
  omega
theorem xt_divn : ∀ x, x < 1000 → -nI x / nI 100 = -nI (x / 100) := by decide +kernel
theorem xt_remn : ∀ x, x < 1000 → -nI (x / 100) * nI 100 - -nI x = nI (x % 100) := by decide +kernel
theorem xt_sub_ge {a b : Nat} (ha : a < 2 ^ 30) (hb : b < 2 ^ 30) : nI 0 ≤ nI a - nI b ↔ b ≤ a := by
  rw [Int32.le_iff_toInt_le, xt_sub ha hb]
  show (0 : Int) ≤ _ ↔ _
  omega
theorem dgs_b (x : Nat) : 1 ≤ dgs x ∧ dgs x ≤ 3 := by
  unfold dgs
  split
  · omega
  · split <;> omega
theorem dgs_c (x : Nat) : (x < 10 ∨ 2 ≤ dgs x) ∧ (x < 100 ∨ 3 ≤ dgs x) := by
  unfold dgs
  split
  · omega
  · split <;> omega
theorem dgc_b (x j : Nat) : 48 ≤ dgc x j ∧ dgc x j < 58 := by
  unfold dgc
  omega
def xDg (P : xP) (o1 o2 : Nat) : Prop := (∀ U, P.2.2.2.2 U → va_Z "java/lang/Integer" "DigitOnes" "[B" (.ref o1) (xA0 P) U P.2.2.1) ∧ (∀ U, P.2.2.2.2 U → va_Z "java/lang/Integer" "DigitTens" "[B" (.ref o2) (xA0 P) U P.2.2.1) ∧ (∀ U, P.2.2.2.2 U → va_T .byte o1 100 (fun j => .int (nI (48 + j % 10))) (xA0 P) U P.2.2.1) ∧ ∀ U, P.2.2.2.2 U → va_T .byte o2 100 (fun j => .int (nI (48 + j / 10))) (xA0 P) U P.2.2.1
theorem d_Integer_stringSize_0 : decode prog_28_method_13_code 0 = .ok (.iconst 1, 1) := by decide +kernel
theorem d_Integer_stringSize_1 : decode prog_28_method_13_code 1 = .ok (.istore_n 1, 1) := by decide +kernel
theorem d_Integer_stringSize_2 : decode prog_28_method_13_code 2 = .ok (.iload_n 0, 1) := by decide +kernel
theorem d_Integer_stringSize_3 : decode prog_28_method_13_code 3 = .ok (.ifCond .lt 8, 3) := by decide +kernel
theorem d_Integer_stringSize_6 : decode prog_28_method_13_code 6 = .ok (.iconst 0, 1) := by decide +kernel
theorem d_Integer_stringSize_7 : decode prog_28_method_13_code 7 = .ok (.istore_n 1, 1) := by decide +kernel
theorem d_Integer_stringSize_8 : decode prog_28_method_13_code 8 = .ok (.iload_n 0, 1) := by decide +kernel
theorem d_Integer_stringSize_9 : decode prog_28_method_13_code 9 = .ok (.ineg, 1) := by decide +kernel
theorem d_Integer_stringSize_10 : decode prog_28_method_13_code 10 = .ok (.istore_n 0, 1) := by decide +kernel
theorem d_Integer_stringSize_11 : decode prog_28_method_13_code 11 = .ok (.bipush (-10), 2) := by decide +kernel
theorem d_Integer_stringSize_13 : decode prog_28_method_13_code 13 = .ok (.istore_n 2, 1) := by decide +kernel
theorem d_Integer_stringSize_14 : decode prog_28_method_13_code 14 = .ok (.iconst 1, 1) := by decide +kernel
theorem d_Integer_stringSize_15 : decode prog_28_method_13_code 15 = .ok (.istore_n 3, 1) := by decide +kernel
theorem d_Integer_stringSize_16 : decode prog_28_method_13_code 16 = .ok (.iload_n 3, 1) := by decide +kernel
theorem d_Integer_stringSize_17 : decode prog_28_method_13_code 17 = .ok (.bipush 10, 2) := by decide +kernel
theorem d_Integer_stringSize_19 : decode prog_28_method_13_code 19 = .ok (.if_icmp .ge 23, 3) := by decide +kernel
theorem d_Integer_stringSize_22 : decode prog_28_method_13_code 22 = .ok (.iload_n 0, 1) := by decide +kernel
theorem d_Integer_stringSize_23 : decode prog_28_method_13_code 23 = .ok (.iload_n 2, 1) := by decide +kernel
theorem d_Integer_stringSize_24 : decode prog_28_method_13_code 24 = .ok (.if_icmp .le 7, 3) := by decide +kernel
theorem d_Integer_stringSize_27 : decode prog_28_method_13_code 27 = .ok (.iload_n 3, 1) := by decide +kernel
theorem d_Integer_stringSize_28 : decode prog_28_method_13_code 28 = .ok (.iload_n 1, 1) := by decide +kernel
theorem d_Integer_stringSize_29 : decode prog_28_method_13_code 29 = .ok (.iadd, 1) := by decide +kernel
theorem d_Integer_stringSize_30 : decode prog_28_method_13_code 30 = .ok (.ireturn, 1) := by decide +kernel
theorem d_Integer_stringSize_31 : decode prog_28_method_13_code 31 = .ok (.bipush 10, 2) := by decide +kernel
theorem d_Integer_stringSize_33 : decode prog_28_method_13_code 33 = .ok (.iload_n 2, 1) := by decide +kernel
theorem d_Integer_stringSize_34 : decode prog_28_method_13_code 34 = .ok (.imul, 1) := by decide +kernel
theorem d_Integer_stringSize_35 : decode prog_28_method_13_code 35 = .ok (.istore_n 2, 1) := by decide +kernel
theorem d_Integer_stringSize_36 : decode prog_28_method_13_code 36 = .ok (.iinc 3 1, 3) := by decide +kernel
theorem d_Integer_stringSize_39 : decode prog_28_method_13_code 39 = .ok (.goto (-23), 3) := by decide +kernel
theorem d_Integer_stringSize_42 : decode prog_28_method_13_code 42 = .ok (.bipush 10, 2) := by decide +kernel
theorem d_Integer_stringSize_44 : decode prog_28_method_13_code 44 = .ok (.iload_n 1, 1) := by decide +kernel
theorem d_Integer_stringSize_45 : decode prog_28_method_13_code 45 = .ok (.iadd, 1) := by decide +kernel
theorem d_Integer_stringSize_46 : decode prog_28_method_13_code 46 = .ok (.ireturn, 1) := by decide +kernel
set_option maxHeartbeats 4000000 in
set_option maxRecDepth 20000 in
theorem c_Integer_stringSize {P : xP} {F : xF} {z : Nat} {x : Nat}  (hx : x < 1000) : xM P xy_Integer_stringSize [.int (nI (x))] F (z) 0 0 (fun r9 F9 z9 => r9 = some (.int (nI (dgs x))) ∧ F9 = F ∧ z9 = z) := by
  refine xM_i .int (by decide +kernel) (Nat.le_of_ble_eq_true rfl) (L0 := [some (.int (nI (x))), none, none, none]) rfl rfl fun Θ hC hret => ?_
  refine x_iconst hC d_Integer_stringSize_0 (v := nI 1) (by decide) ?_
  refine x_istore_n hC d_Integer_stringSize_1 rfl (Nat.le_of_ble_eq_true rfl) (L1 := [some (.int (nI (x))), some (.int (nI 1)), none, none]) rfl ?_
  refine x_iload_n hC d_Integer_stringSize_2 rfl rfl ?_
  refine x_ifN_lt hC d_Integer_stringSize_3 (tgt := 11) (by decide) (by omega) (fun c_3 => ?_) (fun c_3 => ?_)
  · skip
    exact c_3.elim
  · skip
    refine x_iconst hC d_Integer_stringSize_6 (v := nI 0) (by decide) ?_
    refine x_istore_n hC d_Integer_stringSize_7 rfl (Nat.le_of_ble_eq_true rfl) (L1 := [some (.int (nI (x))), some (.int (nI 0)), none, none]) rfl ?_
    refine x_iload_n hC d_Integer_stringSize_8 rfl rfl ?_
    refine x_ineg hC d_Integer_stringSize_9 (v := (-nI (x))) rfl ?_
    refine x_istore_n hC d_Integer_stringSize_10 rfl (Nat.le_of_ble_eq_true rfl) (L1 := [some (.int (-nI (x))), some (.int (nI 0)), none, none]) rfl ?_
    refine x_bipush hC d_Integer_stringSize_11 (v := -10) (by decide) ?_
    refine x_top (v := (-nI 10)) (by decide) ?_
    refine x_istore_n hC d_Integer_stringSize_13 rfl (Nat.le_of_ble_eq_true rfl) (L1 := [some (.int (-nI (x))), some (.int (nI 0)), some (.int (-nI 10)), none]) rfl ?_
    refine x_iconst hC d_Integer_stringSize_14 (v := nI 1) (by decide) ?_
    refine x_istore_n hC d_Integer_stringSize_15 rfl (Nat.le_of_ble_eq_true rfl) (L1 := [some (.int (-nI (x))), some (.int (nI 0)), some (.int (-nI 10)), some (.int (nI 1))]) rfl ?_
    refine x_iload_n hC d_Integer_stringSize_16 rfl rfl ?_
    refine x_bipush hC d_Integer_stringSize_17 (v := nI 10) (by decide) ?_
    refine x_icmpN_ge hC d_Integer_stringSize_19 (tgt := 42) (by decide) (by omega) (by omega) (fun c_19 => ?_) (fun c_19 => ?_)
    · skip
      exact absurd c_19 (by omega)
    · skip
      refine x_iload_n hC d_Integer_stringSize_22 rfl rfl ?_
      refine x_iload_n hC d_Integer_stringSize_23 rfl rfl ?_
      refine x_icmp_le hC d_Integer_stringSize_24 (tgt := 31) (by decide) (fun c_24 => ?_) (fun c_24 => ?_)
      · skip
        have c9 := (xt_neg_le (by omega) (by omega)).mp c_24
        refine x_bipush hC d_Integer_stringSize_31 (v := nI 10) (by decide) ?_
        refine x_iload_n hC d_Integer_stringSize_33 rfl rfl ?_
        refine x_imul hC d_Integer_stringSize_34 (v := (-nI 100)) (by decide) ?_
        refine x_istore_n hC d_Integer_stringSize_35 rfl (Nat.le_of_ble_eq_true rfl) (L1 := [some (.int (-nI (x))), some (.int (nI 0)), some (.int (-nI 100)), some (.int (nI 1))]) rfl ?_
        refine x_iinc hC d_Integer_stringSize_36 rfl (v := (nI (2))) (x_incN 1) (Nat.le_of_ble_eq_true rfl) (L1 := [some (.int (-nI (x))), some (.int (nI 0)), some (.int (-nI 100)), some (.int (nI 2))]) rfl ?_
        refine x_goto hC d_Integer_stringSize_39 (tgt := 16) (by decide) ?_
        refine x_iload_n hC d_Integer_stringSize_16 rfl rfl ?_
        refine x_bipush hC d_Integer_stringSize_17 (v := nI 10) (by decide) ?_
        refine x_icmpN_ge hC d_Integer_stringSize_19 (tgt := 42) (by decide) (by omega) (by omega) (fun c_19 => ?_) (fun c_19 => ?_)
        · skip
          exact absurd c_19 (by omega)
        · skip
          refine x_iload_n hC d_Integer_stringSize_22 rfl rfl ?_
          refine x_iload_n hC d_Integer_stringSize_23 rfl rfl ?_
          refine x_icmp_le hC d_Integer_stringSize_24 (tgt := 31) (by decide) (fun c_24 => ?_) (fun c_24 => ?_)
          · skip
            have c9 := (xt_neg_le (by omega) (by omega)).mp c_24
            refine x_bipush hC d_Integer_stringSize_31 (v := nI 10) (by decide) ?_
            refine x_iload_n hC d_Integer_stringSize_33 rfl rfl ?_
            refine x_imul hC d_Integer_stringSize_34 (v := (-nI 1000)) (by decide) ?_
            refine x_istore_n hC d_Integer_stringSize_35 rfl (Nat.le_of_ble_eq_true rfl) (L1 := [some (.int (-nI (x))), some (.int (nI 0)), some (.int (-nI 1000)), some (.int (nI 2))]) rfl ?_
            refine x_iinc hC d_Integer_stringSize_36 rfl (v := (nI (3))) (x_incN 1) (Nat.le_of_ble_eq_true rfl) (L1 := [some (.int (-nI (x))), some (.int (nI 0)), some (.int (-nI 1000)), some (.int (nI 3))]) rfl ?_
            refine x_goto hC d_Integer_stringSize_39 (tgt := 16) (by decide) ?_
            refine x_iload_n hC d_Integer_stringSize_16 rfl rfl ?_
            refine x_bipush hC d_Integer_stringSize_17 (v := nI 10) (by decide) ?_
            refine x_icmpN_ge hC d_Integer_stringSize_19 (tgt := 42) (by decide) (by omega) (by omega) (fun c_19 => ?_) (fun c_19 => ?_)
            · skip
              exact absurd c_19 (by omega)
            · skip
              refine x_iload_n hC d_Integer_stringSize_22 rfl rfl ?_
              refine x_iload_n hC d_Integer_stringSize_23 rfl rfl ?_
              refine x_icmp_le hC d_Integer_stringSize_24 (tgt := 31) (by decide) (fun c_24 => ?_) (fun c_24 => ?_)
              · skip
                exact absurd ((xt_neg_le (by omega) (by omega)).mp c_24) (by omega)
              · skip
                have c9 := (xt_neg_lt (by omega) (by omega)).mp (Int32.not_le.mp c_24)
                refine x_iload_n hC d_Integer_stringSize_27 rfl rfl ?_
                refine x_iload_n hC d_Integer_stringSize_28 rfl rfl ?_
                refine x_iadd hC d_Integer_stringSize_29 (v := (nI (3))) (x_addN (by omega)) ?_
                exact hret _ _ _ _ _ _ _ d_Integer_stringSize_30 (by decide) (by decide) rfl (⟨congrArg (fun q => some (Value.int (nI q))) (by unfold dgs; (repeat' split) <;> omega), rfl, rfl⟩)
          · skip
            have c9 := (xt_neg_lt (by omega) (by omega)).mp (Int32.not_le.mp c_24)
            refine x_iload_n hC d_Integer_stringSize_27 rfl rfl ?_
            refine x_iload_n hC d_Integer_stringSize_28 rfl rfl ?_
            refine x_iadd hC d_Integer_stringSize_29 (v := (nI (2))) (x_addN (by omega)) ?_
            exact hret _ _ _ _ _ _ _ d_Integer_stringSize_30 (by decide) (by decide) rfl (⟨congrArg (fun q => some (Value.int (nI q))) (by unfold dgs; (repeat' split) <;> omega), rfl, rfl⟩)
      · skip
        have c9 := (xt_neg_lt (by omega) (by omega)).mp (Int32.not_le.mp c_24)
        refine x_iload_n hC d_Integer_stringSize_27 rfl rfl ?_
        refine x_iload_n hC d_Integer_stringSize_28 rfl rfl ?_
        refine x_iadd hC d_Integer_stringSize_29 (v := (nI (1))) (x_addN (by omega)) ?_
        exact hret _ _ _ _ _ _ _ d_Integer_stringSize_30 (by decide) (by decide) rfl (⟨congrArg (fun q => some (Value.int (nI q))) (by unfold dgs; (repeat' split) <;> omega), rfl, rfl⟩)

theorem d_Integer_getChars_0 : decode prog_28_method_12_code 0 = .ok (.iload_n 1, 1) := by decide +kernel
theorem d_Integer_getChars_1 : decode prog_28_method_12_code 1 = .ok (.istore 5, 2) := by decide +kernel
theorem d_Integer_getChars_3 : decode prog_28_method_12_code 3 = .ok (.iload_n 0, 1) := by decide +kernel
theorem d_Integer_getChars_4 : decode prog_28_method_12_code 4 = .ok (.ifCond .ge 7, 3) := by decide +kernel
theorem d_Integer_getChars_7 : decode prog_28_method_12_code 7 = .ok (.iconst 1, 1) := by decide +kernel
theorem d_Integer_getChars_8 : decode prog_28_method_12_code 8 = .ok (.goto 4, 3) := by decide +kernel
theorem d_Integer_getChars_11 : decode prog_28_method_12_code 11 = .ok (.iconst 0, 1) := by decide +kernel
theorem d_Integer_getChars_12 : decode prog_28_method_12_code 12 = .ok (.istore 6, 2) := by decide +kernel
theorem d_Integer_getChars_14 : decode prog_28_method_12_code 14 = .ok (.iload 6, 2) := by decide +kernel
theorem d_Integer_getChars_16 : decode prog_28_method_12_code 16 = .ok (.ifCond .ne 6, 3) := by decide +kernel
theorem d_Integer_getChars_19 : decode prog_28_method_12_code 19 = .ok (.iload_n 0, 1) := by decide +kernel
theorem d_Integer_getChars_20 : decode prog_28_method_12_code 20 = .ok (.ineg, 1) := by decide +kernel
theorem d_Integer_getChars_21 : decode prog_28_method_12_code 21 = .ok (.istore_n 0, 1) := by decide +kernel
theorem d_Integer_getChars_22 : decode prog_28_method_12_code 22 = .ok (.iload_n 0, 1) := by decide +kernel
theorem d_Integer_getChars_23 : decode prog_28_method_12_code 23 = .ok (.bipush (-100), 2) := by decide +kernel
theorem d_Integer_getChars_25 : decode prog_28_method_12_code 25 = .ok (.if_icmp .gt 47, 3) := by decide +kernel
theorem d_Integer_getChars_28 : decode prog_28_method_12_code 28 = .ok (.iload_n 0, 1) := by decide +kernel
theorem d_Integer_getChars_29 : decode prog_28_method_12_code 29 = .ok (.bipush 100, 2) := by decide +kernel
theorem d_Integer_getChars_31 : decode prog_28_method_12_code 31 = .ok (.idiv, 1) := by decide +kernel
theorem d_Integer_getChars_32 : decode prog_28_method_12_code 32 = .ok (.istore_n 3, 1) := by decide +kernel
theorem d_Integer_getChars_33 : decode prog_28_method_12_code 33 = .ok (.iload_n 3, 1) := by decide +kernel
theorem d_Integer_getChars_34 : decode prog_28_method_12_code 34 = .ok (.bipush 100, 2) := by decide +kernel
theorem d_Integer_getChars_36 : decode prog_28_method_12_code 36 = .ok (.imul, 1) := by decide +kernel
theorem d_Integer_getChars_37 : decode prog_28_method_12_code 37 = .ok (.iload_n 0, 1) := by decide +kernel
theorem d_Integer_getChars_38 : decode prog_28_method_12_code 38 = .ok (.isub, 1) := by decide +kernel
theorem d_Integer_getChars_39 : decode prog_28_method_12_code 39 = .ok (.istore 4, 2) := by decide +kernel
theorem d_Integer_getChars_41 : decode prog_28_method_12_code 41 = .ok (.iload_n 3, 1) := by decide +kernel
theorem d_Integer_getChars_42 : decode prog_28_method_12_code 42 = .ok (.istore_n 0, 1) := by decide +kernel
theorem d_Integer_getChars_43 : decode prog_28_method_12_code 43 = .ok (.aload_n 2, 1) := by decide +kernel
theorem d_Integer_getChars_44 : decode prog_28_method_12_code 44 = .ok (.iinc 5 (-1), 3) := by decide +kernel
theorem d_Integer_getChars_47 : decode prog_28_method_12_code 47 = .ok (.iload 5, 2) := by decide +kernel
theorem d_Integer_getChars_49 : decode prog_28_method_12_code 49 = .ok (.getstatic 83, 3) := by decide +kernel
theorem d_Integer_getChars_52 : decode prog_28_method_12_code 52 = .ok (.iload 4, 2) := by decide +kernel
theorem d_Integer_getChars_54 : decode prog_28_method_12_code 54 = .ok (.baload, 1) := by decide +kernel
theorem d_Integer_getChars_55 : decode prog_28_method_12_code 55 = .ok (.bastore, 1) := by decide +kernel
theorem d_Integer_getChars_56 : decode prog_28_method_12_code 56 = .ok (.aload_n 2, 1) := by decide +kernel
theorem d_Integer_getChars_57 : decode prog_28_method_12_code 57 = .ok (.iinc 5 (-1), 3) := by decide +kernel
theorem d_Integer_getChars_60 : decode prog_28_method_12_code 60 = .ok (.iload 5, 2) := by decide +kernel
theorem d_Integer_getChars_62 : decode prog_28_method_12_code 62 = .ok (.getstatic 87, 3) := by decide +kernel
theorem d_Integer_getChars_65 : decode prog_28_method_12_code 65 = .ok (.iload 4, 2) := by decide +kernel
theorem d_Integer_getChars_67 : decode prog_28_method_12_code 67 = .ok (.baload, 1) := by decide +kernel
theorem d_Integer_getChars_68 : decode prog_28_method_12_code 68 = .ok (.bastore, 1) := by decide +kernel
theorem d_Integer_getChars_69 : decode prog_28_method_12_code 69 = .ok (.goto (-47), 3) := by decide +kernel
theorem d_Integer_getChars_72 : decode prog_28_method_12_code 72 = .ok (.aload_n 2, 1) := by decide +kernel
theorem d_Integer_getChars_73 : decode prog_28_method_12_code 73 = .ok (.iinc 5 (-1), 3) := by decide +kernel
theorem d_Integer_getChars_76 : decode prog_28_method_12_code 76 = .ok (.iload 5, 2) := by decide +kernel
theorem d_Integer_getChars_78 : decode prog_28_method_12_code 78 = .ok (.getstatic 83, 3) := by decide +kernel
theorem d_Integer_getChars_81 : decode prog_28_method_12_code 81 = .ok (.iload_n 0, 1) := by decide +kernel
theorem d_Integer_getChars_82 : decode prog_28_method_12_code 82 = .ok (.ineg, 1) := by decide +kernel
theorem d_Integer_getChars_83 : decode prog_28_method_12_code 83 = .ok (.baload, 1) := by decide +kernel
theorem d_Integer_getChars_84 : decode prog_28_method_12_code 84 = .ok (.bastore, 1) := by decide +kernel
theorem d_Integer_getChars_85 : decode prog_28_method_12_code 85 = .ok (.iload_n 0, 1) := by decide +kernel
theorem d_Integer_getChars_86 : decode prog_28_method_12_code 86 = .ok (.bipush (-9), 2) := by decide +kernel
theorem d_Integer_getChars_88 : decode prog_28_method_12_code 88 = .ok (.if_icmp .ge 16, 3) := by decide +kernel
theorem d_Integer_getChars_91 : decode prog_28_method_12_code 91 = .ok (.aload_n 2, 1) := by decide +kernel
theorem d_Integer_getChars_92 : decode prog_28_method_12_code 92 = .ok (.iinc 5 (-1), 3) := by decide +kernel
theorem d_Integer_getChars_95 : decode prog_28_method_12_code 95 = .ok (.iload 5, 2) := by decide +kernel
theorem d_Integer_getChars_97 : decode prog_28_method_12_code 97 = .ok (.getstatic 87, 3) := by decide +kernel
theorem d_Integer_getChars_100 : decode prog_28_method_12_code 100 = .ok (.iload_n 0, 1) := by decide +kernel
theorem d_Integer_getChars_101 : decode prog_28_method_12_code 101 = .ok (.ineg, 1) := by decide +kernel
theorem d_Integer_getChars_102 : decode prog_28_method_12_code 102 = .ok (.baload, 1) := by decide +kernel
theorem d_Integer_getChars_103 : decode prog_28_method_12_code 103 = .ok (.bastore, 1) := by decide +kernel
theorem d_Integer_getChars_104 : decode prog_28_method_12_code 104 = .ok (.iload 6, 2) := by decide +kernel
theorem d_Integer_getChars_106 : decode prog_28_method_12_code 106 = .ok (.ifCond .eq 12, 3) := by decide +kernel
theorem d_Integer_getChars_109 : decode prog_28_method_12_code 109 = .ok (.aload_n 2, 1) := by decide +kernel
theorem d_Integer_getChars_110 : decode prog_28_method_12_code 110 = .ok (.iinc 5 (-1), 3) := by decide +kernel
theorem d_Integer_getChars_113 : decode prog_28_method_12_code 113 = .ok (.iload 5, 2) := by decide +kernel
theorem d_Integer_getChars_115 : decode prog_28_method_12_code 115 = .ok (.bipush 45, 2) := by decide +kernel
theorem d_Integer_getChars_117 : decode prog_28_method_12_code 117 = .ok (.bastore, 1) := by decide +kernel
theorem d_Integer_getChars_118 : decode prog_28_method_12_code 118 = .ok (.iload 5, 2) := by decide +kernel
theorem d_Integer_getChars_120 : decode prog_28_method_12_code 120 = .ok (.ireturn, 1) := by decide +kernel
set_option maxHeartbeats 4000000 in
set_option maxRecDepth 20000 in
theorem c_Integer_getChars {P : xP} {F : xF} {z : Nat} {x : Nat} {q : Nat} {d : Nat} {o1 : Nat} {o2 : Nat} {K : Nat} {g : Nat → Nat} (hd : F (d) = some (.inr (2, K, fun b9 => .int (nI (g b9))))) (hD : xDg P o1 o2) (hx : x < 1000) (hq : dgs x ≤ q ∧ q ≤ K ∧ K ≤ 9000) : xM P xy_Integer_getChars [.int (nI (x)), .int (nI (q)), .ref d] F (z) 0 0 (fun r9 F9 z9 => ∃ g1 : Nat → Nat, r9 = some (.int (nI (q - dgs x))) ∧ z9 = z ∧ F9 (d) = some (.inr (2, K, fun b9 => .int (nI (g1 b9)))) ∧ ((∀ i, i < dgs x → g1 (q - dgs x + i) = dgc x i) ∧ ∀ j, (j < q - dgs x ∨ q ≤ j) → g1 j = g j) ∧ (∀ a9 : Nat, (a9 < d ∨ d + 1 ≤ a9) → F9 a9 = F a9)) := by
  refine xM_i .int (by decide +kernel) (Nat.le_of_ble_eq_true rfl) (L0 := [some (.int (nI (x))), some (.int (nI (q))), some (.ref d), none, none, none, none]) rfl rfl fun Θ hC hret => ?_
  have hag : ∀ a9 : Nat, (a9 < d ∨ d + 1 ≤ a9) → F a9 = F a9 := fun a9 _ => rfl
  have hdb := dgs_b x
  have hdc := dgs_c x
  refine x_iload_n hC d_Integer_getChars_0 rfl rfl ?_
  refine x_istore hC d_Integer_getChars_1 (Nat.le_of_ble_eq_true rfl) (L1 := [some (.int (nI (x))), some (.int (nI (q))), some (.ref d), none, none, some (.int (nI (q))), none]) rfl ?_
  refine x_iload_n hC d_Integer_getChars_3 rfl rfl ?_
  refine x_ifN_ge hC d_Integer_getChars_4 (tgt := 11) (by decide) (by omega) (fun c_4 => ?_) (fun c_4 => ?_)
  · skip
    refine x_iconst hC d_Integer_getChars_11 (v := nI 0) (by decide) ?_
    refine x_istore hC d_Integer_getChars_12 (Nat.le_of_ble_eq_true rfl) (L1 := [some (.int (nI (x))), some (.int (nI (q))), some (.ref d), none, none, some (.int (nI (q))), some (.int (nI 0))]) rfl ?_
    refine x_iload hC d_Integer_getChars_14 rfl ?_
    refine x_ifN_ne hC d_Integer_getChars_16 (tgt := 22) (by decide) (by omega) (fun c_16 => ?_) (fun c_16 => ?_)
    · skip
      exact absurd c_16 (by omega)
    · skip
      refine x_iload_n hC d_Integer_getChars_19 rfl rfl ?_
      refine x_ineg hC d_Integer_getChars_20 (v := (-nI (x))) rfl ?_
      refine x_istore_n hC d_Integer_getChars_21 rfl (Nat.le_of_ble_eq_true rfl) (L1 := [some (.int (-nI (x))), some (.int (nI (q))), some (.ref d), none, none, some (.int (nI (q))), some (.int (nI 0))]) rfl ?_
      refine x_iload_n hC d_Integer_getChars_22 rfl rfl ?_
      refine x_bipush hC d_Integer_getChars_23 (v := -100) (by decide) ?_
      refine x_top (v := (-nI 100)) (by decide) ?_
      refine x_icmp_gt hC d_Integer_getChars_25 (tgt := 72) (by decide) (fun c_25 => ?_) (fun c_25 => ?_)
      · skip
        have c9 := (xt_neg_lt (by omega) (by omega)).mp c_25
        refine x_aload_n hC d_Integer_getChars_72 rfl rfl ?_
        refine x_iinc hC d_Integer_getChars_73 rfl (v := (nI ((q) - 1))) (x_decN (by omega)) (Nat.le_of_ble_eq_true rfl) (L1 := [some (.int (-nI (x))), some (.int (nI (q))), some (.ref d), none, none, some (.int (nI ((q) - 1))), some (.int (nI 0))]) rfl ?_
        refine x_iload hC d_Integer_getChars_76 rfl ?_
        refine x_gets hC (v := .ref o1) hD.1 (x_in (x_of (xtb_7 (List.mem_of_getElem? (i := 46) (by decide +kernel)))) (by decide +kernel)) d_Integer_getChars_78 ?_
        refine x_iload_n hC d_Integer_getChars_81 rfl rfl ?_
        refine x_ineg hC d_Integer_getChars_82 (v := (nI (x))) (xt_nn _) ?_
        refine x_stb hC hD.2.2.1 (j := x) ⟨rfl, by omega, by omega⟩ (x := (nI (48 + (x) % 10))) rfl d_Integer_getChars_83 ?_
        refine x_bast hC hd (j := (q) - 1) ⟨rfl, by omega, by omega⟩ (xt_narb (by omega)) d_Integer_getChars_84 (g1 := fun b9 => nI (updN g ((q) - 1) (48 + (x) % 10) b9)) (x_updN _ _ _) ?_
        generalize egc : updN g ((q) - 1) (48 + (x) % 10) = gc
        generalize e2 : xup F (d) (.inr (2, K, fun b9 => .int (nI (gc b9)))) = F2
        have hd : F2 (d) = some (.inr (2, K, fun b9 => .int (nI (gc b9)))) := by rw [← e2]; exact xup_eq
        have hag : ∀ a9 : Nat, (a9 < d ∨ d + 1 ≤ a9) → F2 a9 = F a9 := fun a9 q0 => by rw [← e2]; exact (xup_ne (by omega)).trans (hag a9 q0)
        refine x_iload_n hC d_Integer_getChars_85 rfl rfl ?_
        refine x_bipush hC d_Integer_getChars_86 (v := -9) (by decide) ?_
        refine x_top (v := (-nI 9)) (by decide) ?_
        refine x_icmp_ge hC d_Integer_getChars_88 (tgt := 104) (by decide) (fun c_88 => ?_) (fun c_88 => ?_)
        · skip
          have c9 := (xt_neg_le (by omega) (by omega)).mp c_88
          refine x_iload hC d_Integer_getChars_104 rfl ?_
          refine x_ifN_eq hC d_Integer_getChars_106 (tgt := 118) (by decide) (by omega) (fun c_106 => ?_) (fun c_106 => ?_)
          · skip
            refine x_iload hC d_Integer_getChars_118 rfl ?_
            refine hret _ _ _ _ _ _ _ d_Integer_getChars_120 (by decide) (by decide) rfl ?_
            have hd9 : dgs x = 1 := by unfold dgs; (repeat' split) <;> omega
            rw [hd9] at hq ⊢
            exact ⟨gc, congrArg (fun q => some (Value.int (nI q))) (by omega), rfl, hd, ⟨fun i hi => by
                rw [← egc]
                unfold dgc
                rw [hd9]
                rcases (show i = 0 by omega) with rfl <;> simp only [updN] <;> (repeat' split) <;> omega, fun j hj => by
                rw [← egc, updN_ne (by omega)]⟩, hag⟩
          · skip
            exact absurd c_106 (by omega)
        · skip
          have c9 := (xt_neg_lt (by omega) (by omega)).mp (Int32.not_le.mp c_88)
          refine x_aload_n hC d_Integer_getChars_91 rfl rfl ?_
          refine x_iinc hC d_Integer_getChars_92 rfl (v := (nI (((q) - 1) - 1))) (x_decN (by omega)) (Nat.le_of_ble_eq_true rfl) (L1 := [some (.int (-nI (x))), some (.int (nI (q))), some (.ref d), none, none, some (.int (nI (((q) - 1) - 1))), some (.int (nI 0))]) rfl ?_
          refine x_iload hC d_Integer_getChars_95 rfl ?_
          refine x_gets hC (v := .ref o2) hD.2.1 (x_in (x_of (xtb_7 (List.mem_of_getElem? (i := 48) (by decide +kernel)))) (by decide +kernel)) d_Integer_getChars_97 ?_
          refine x_iload_n hC d_Integer_getChars_100 rfl rfl ?_
          refine x_ineg hC d_Integer_getChars_101 (v := (nI (x))) (xt_nn _) ?_
          refine x_stb hC hD.2.2.2 (j := x) ⟨rfl, by omega, by omega⟩ (x := (nI (48 + (x) / 10))) rfl d_Integer_getChars_102 ?_
          refine x_bast hC hd (j := ((q) - 1) - 1) ⟨rfl, by omega, by omega⟩ (xt_narb (by omega)) d_Integer_getChars_103 (g1 := fun b9 => nI (updN gc (((q) - 1) - 1) (48 + (x) / 10) b9)) (x_updN _ _ _) ?_
          generalize egd2 : updN gc (((q) - 1) - 1) (48 + (x) / 10) = gd2
          generalize e4 : xup F2 (d) (.inr (2, K, fun b9 => .int (nI (gd2 b9)))) = F4
          have hd : F4 (d) = some (.inr (2, K, fun b9 => .int (nI (gd2 b9)))) := by rw [← e4]; exact xup_eq
          have hag : ∀ a9 : Nat, (a9 < d ∨ d + 1 ≤ a9) → F4 a9 = F a9 := fun a9 q0 => by rw [← e4]; exact (xup_ne (by omega)).trans (hag a9 q0)
          refine x_iload hC d_Integer_getChars_104 rfl ?_
          refine x_ifN_eq hC d_Integer_getChars_106 (tgt := 118) (by decide) (by omega) (fun c_106 => ?_) (fun c_106 => ?_)
          · skip
            refine x_iload hC d_Integer_getChars_118 rfl ?_
            refine hret _ _ _ _ _ _ _ d_Integer_getChars_120 (by decide) (by decide) rfl ?_
            have hd9 : dgs x = 2 := by unfold dgs; (repeat' split) <;> omega
            rw [hd9] at hq ⊢
            exact ⟨gd2, congrArg (fun q => some (Value.int (nI q))) (by omega), rfl, hd, ⟨fun i hi => by
                rw [← egd2, ← egc]
                unfold dgc
                rw [hd9]
                rcases (show i = 0 ∨ i = 1 by omega) with rfl | rfl <;> simp only [updN] <;> (repeat' split) <;> omega, fun j hj => by
                rw [← egd2, ← egc, updN_ne (by omega), updN_ne (by omega)]⟩, hag⟩
          · skip
            exact absurd c_106 (by omega)
      · skip
        have c9 := (xt_neg_le (by omega) (by omega)).mp (Int32.not_lt.mp c_25)
        refine x_iload_n hC d_Integer_getChars_28 rfl rfl ?_
        refine x_bipush hC d_Integer_getChars_29 (v := nI 100) (by decide) ?_
        refine x_idiv hC d_Integer_getChars_31 (x_ne0 (by omega) (by omega)) (v := (-nI (x / 100))) (xt_divn x hx) ?_
        refine x_istore_n hC d_Integer_getChars_32 rfl (Nat.le_of_ble_eq_true rfl) (L1 := [some (.int (-nI (x))), some (.int (nI (q))), some (.ref d), some (.int (-nI (x / 100))), none, some (.int (nI (q))), some (.int (nI 0))]) rfl ?_
        refine x_iload_n hC d_Integer_getChars_33 rfl rfl ?_
        refine x_bipush hC d_Integer_getChars_34 (v := nI 100) (by decide) ?_
        refine x_imul hC d_Integer_getChars_36 (v := (-nI (x / 100) * nI 100)) rfl ?_
        refine x_iload_n hC d_Integer_getChars_37 rfl rfl ?_
        refine x_isub hC d_Integer_getChars_38 (v := (nI (x % 100))) (xt_remn x hx) ?_
        refine x_istore hC d_Integer_getChars_39 (Nat.le_of_ble_eq_true rfl) (L1 := [some (.int (-nI (x))), some (.int (nI (q))), some (.ref d), some (.int (-nI (x / 100))), some (.int (nI (x % 100))), some (.int (nI (q))), some (.int (nI 0))]) rfl ?_
        refine x_iload_n hC d_Integer_getChars_41 rfl rfl ?_
        refine x_istore_n hC d_Integer_getChars_42 rfl (Nat.le_of_ble_eq_true rfl) (L1 := [some (.int (-nI (x / 100))), some (.int (nI (q))), some (.ref d), some (.int (-nI (x / 100))), some (.int (nI (x % 100))), some (.int (nI (q))), some (.int (nI 0))]) rfl ?_
        refine x_aload_n hC d_Integer_getChars_43 rfl rfl ?_
        refine x_iinc hC d_Integer_getChars_44 rfl (v := (nI ((q) - 1))) (x_decN (by omega)) (Nat.le_of_ble_eq_true rfl) (L1 := [some (.int (-nI (x / 100))), some (.int (nI (q))), some (.ref d), some (.int (-nI (x / 100))), some (.int (nI (x % 100))), some (.int (nI ((q) - 1))), some (.int (nI 0))]) rfl ?_
        refine x_iload hC d_Integer_getChars_47 rfl ?_
        refine x_gets hC (v := .ref o1) hD.1 (x_in (x_of (xtb_7 (List.mem_of_getElem? (i := 46) (by decide +kernel)))) (by decide +kernel)) d_Integer_getChars_49 ?_
        refine x_iload hC d_Integer_getChars_52 rfl ?_
        refine x_stb hC hD.2.2.1 (j := x % 100) ⟨rfl, by omega, by omega⟩ (x := (nI (48 + (x % 100) % 10))) rfl d_Integer_getChars_54 ?_
        refine x_bast hC hd (j := (q) - 1) ⟨rfl, by omega, by omega⟩ (xt_narb (by omega)) d_Integer_getChars_55 (g1 := fun b9 => nI (updN g ((q) - 1) (48 + (x % 100) % 10) b9)) (x_updN _ _ _) ?_
        generalize ega : updN g ((q) - 1) (48 + (x % 100) % 10) = ga
        generalize e6 : xup F (d) (.inr (2, K, fun b9 => .int (nI (ga b9)))) = F6
        have hd : F6 (d) = some (.inr (2, K, fun b9 => .int (nI (ga b9)))) := by rw [← e6]; exact xup_eq
        have hag : ∀ a9 : Nat, (a9 < d ∨ d + 1 ≤ a9) → F6 a9 = F a9 := fun a9 q0 => by rw [← e6]; exact (xup_ne (by omega)).trans (hag a9 q0)
        refine x_aload_n hC d_Integer_getChars_56 rfl rfl ?_
        refine x_iinc hC d_Integer_getChars_57 rfl (v := (nI (((q) - 1) - 1))) (x_decN (by omega)) (Nat.le_of_ble_eq_true rfl) (L1 := [some (.int (-nI (x / 100))), some (.int (nI (q))), some (.ref d), some (.int (-nI (x / 100))), some (.int (nI (x % 100))), some (.int (nI (((q) - 1) - 1))), some (.int (nI 0))]) rfl ?_
        refine x_iload hC d_Integer_getChars_60 rfl ?_
        refine x_gets hC (v := .ref o2) hD.2.1 (x_in (x_of (xtb_7 (List.mem_of_getElem? (i := 48) (by decide +kernel)))) (by decide +kernel)) d_Integer_getChars_62 ?_
        refine x_iload hC d_Integer_getChars_65 rfl ?_
        refine x_stb hC hD.2.2.2 (j := x % 100) ⟨rfl, by omega, by omega⟩ (x := (nI (48 + (x % 100) / 10))) rfl d_Integer_getChars_67 ?_
        refine x_bast hC hd (j := ((q) - 1) - 1) ⟨rfl, by omega, by omega⟩ (xt_narb (by omega)) d_Integer_getChars_68 (g1 := fun b9 => nI (updN ga (((q) - 1) - 1) (48 + (x % 100) / 10) b9)) (x_updN _ _ _) ?_
        generalize egb : updN ga (((q) - 1) - 1) (48 + (x % 100) / 10) = gb
        generalize e8 : xup F6 (d) (.inr (2, K, fun b9 => .int (nI (gb b9)))) = F8
        have hd : F8 (d) = some (.inr (2, K, fun b9 => .int (nI (gb b9)))) := by rw [← e8]; exact xup_eq
        have hag : ∀ a9 : Nat, (a9 < d ∨ d + 1 ≤ a9) → F8 a9 = F a9 := fun a9 q0 => by rw [← e8]; exact (xup_ne (by omega)).trans (hag a9 q0)
        refine x_goto hC d_Integer_getChars_69 (tgt := 22) (by decide) ?_
        refine x_iload_n hC d_Integer_getChars_22 rfl rfl ?_
        refine x_bipush hC d_Integer_getChars_23 (v := -100) (by decide) ?_
        refine x_top (v := (-nI 100)) (by decide) ?_
        refine x_icmp_gt hC d_Integer_getChars_25 (tgt := 72) (by decide) (fun c_25 => ?_) (fun c_25 => ?_)
        · skip
          have c9 := (xt_neg_lt (by omega) (by omega)).mp c_25
          refine x_aload_n hC d_Integer_getChars_72 rfl rfl ?_
          refine x_iinc hC d_Integer_getChars_73 rfl (v := (nI ((((q) - 1) - 1) - 1))) (x_decN (by omega)) (Nat.le_of_ble_eq_true rfl) (L1 := [some (.int (-nI (x / 100))), some (.int (nI (q))), some (.ref d), some (.int (-nI (x / 100))), some (.int (nI (x % 100))), some (.int (nI ((((q) - 1) - 1) - 1))), some (.int (nI 0))]) rfl ?_
          refine x_iload hC d_Integer_getChars_76 rfl ?_
          refine x_gets hC (v := .ref o1) hD.1 (x_in (x_of (xtb_7 (List.mem_of_getElem? (i := 46) (by decide +kernel)))) (by decide +kernel)) d_Integer_getChars_78 ?_
          refine x_iload_n hC d_Integer_getChars_81 rfl rfl ?_
          refine x_ineg hC d_Integer_getChars_82 (v := (nI (x / 100))) (xt_nn _) ?_
          refine x_stb hC hD.2.2.1 (j := x / 100) ⟨rfl, by omega, by omega⟩ (x := (nI (48 + (x / 100) % 10))) rfl d_Integer_getChars_83 ?_
          refine x_bast hC hd (j := (((q) - 1) - 1) - 1) ⟨rfl, by omega, by omega⟩ (xt_narb (by omega)) d_Integer_getChars_84 (g1 := fun b9 => nI (updN gb ((((q) - 1) - 1) - 1) (48 + (x / 100) % 10) b9)) (x_updN _ _ _) ?_
          generalize egc : updN gb ((((q) - 1) - 1) - 1) (48 + (x / 100) % 10) = gc
          generalize e10 : xup F8 (d) (.inr (2, K, fun b9 => .int (nI (gc b9)))) = F10
          have hd : F10 (d) = some (.inr (2, K, fun b9 => .int (nI (gc b9)))) := by rw [← e10]; exact xup_eq
          have hag : ∀ a9 : Nat, (a9 < d ∨ d + 1 ≤ a9) → F10 a9 = F a9 := fun a9 q0 => by rw [← e10]; exact (xup_ne (by omega)).trans (hag a9 q0)
          refine x_iload_n hC d_Integer_getChars_85 rfl rfl ?_
          refine x_bipush hC d_Integer_getChars_86 (v := -9) (by decide) ?_
          refine x_top (v := (-nI 9)) (by decide) ?_
          refine x_icmp_ge hC d_Integer_getChars_88 (tgt := 104) (by decide) (fun c_88 => ?_) (fun c_88 => ?_)
          · skip
            have c9 := (xt_neg_le (by omega) (by omega)).mp c_88
            refine x_iload hC d_Integer_getChars_104 rfl ?_
            refine x_ifN_eq hC d_Integer_getChars_106 (tgt := 118) (by decide) (by omega) (fun c_106 => ?_) (fun c_106 => ?_)
            · skip
              refine x_iload hC d_Integer_getChars_118 rfl ?_
              refine hret _ _ _ _ _ _ _ d_Integer_getChars_120 (by decide) (by decide) rfl ?_
              have hd9 : dgs x = 3 := by unfold dgs; (repeat' split) <;> omega
              rw [hd9] at hq ⊢
              exact ⟨gc, congrArg (fun q => some (Value.int (nI q))) (by omega), rfl, hd, ⟨fun i hi => by
                  rw [← egc, ← egb, ← ega]
                  unfold dgc
                  rw [hd9]
                  rcases (show i = 0 ∨ i = 1 ∨ i = 2 by omega) with rfl | rfl | rfl <;> simp only [updN] <;> (repeat' split) <;> omega, fun j hj => by
                  rw [← egc, ← egb, ← ega, updN_ne (by omega), updN_ne (by omega), updN_ne (by omega)]⟩, hag⟩
            · skip
              exact absurd c_106 (by omega)
          · skip
            exact absurd ((xt_neg_lt (by omega) (by omega)).mp (Int32.not_le.mp c_88)) (by omega)
        · skip
          exact absurd ((xt_neg_le (by omega) (by omega)).mp (Int32.not_lt.mp c_25)) (by omega)
  · skip
    exact c_4.elim

theorem d_AbstractStringBuilder_append_I_0 : decode prog_16_method_32_code 0 = .ok (.aload_n 0, 1) := by decide +kernel
theorem d_AbstractStringBuilder_append_I_1 : decode prog_16_method_32_code 1 = .ok (.getfield 79, 3) := by decide +kernel
theorem d_AbstractStringBuilder_append_I_4 : decode prog_16_method_32_code 4 = .ok (.istore_n 2, 1) := by decide +kernel
theorem d_AbstractStringBuilder_append_I_5 : decode prog_16_method_32_code 5 = .ok (.iload_n 2, 1) := by decide +kernel
theorem d_AbstractStringBuilder_append_I_6 : decode prog_16_method_32_code 6 = .ok (.iload_n 1, 1) := by decide +kernel
theorem d_AbstractStringBuilder_append_I_7 : decode prog_16_method_32_code 7 = .ok (.invokestatic 245, 3) := by decide +kernel
theorem d_AbstractStringBuilder_append_I_10 : decode prog_16_method_32_code 10 = .ok (.iadd, 1) := by decide +kernel
theorem d_AbstractStringBuilder_append_I_11 : decode prog_16_method_32_code 11 = .ok (.istore_n 3, 1) := by decide +kernel
theorem d_AbstractStringBuilder_append_I_12 : decode prog_16_method_32_code 12 = .ok (.aload_n 0, 1) := by decide +kernel
theorem d_AbstractStringBuilder_append_I_13 : decode prog_16_method_32_code 13 = .ok (.iload_n 3, 1) := by decide +kernel
theorem d_AbstractStringBuilder_append_I_14 : decode prog_16_method_32_code 14 = .ok (.invokevirtual 100, 3) := by decide +kernel
theorem d_AbstractStringBuilder_append_I_17 : decode prog_16_method_32_code 17 = .ok (.aload_n 0, 1) := by decide +kernel
theorem d_AbstractStringBuilder_append_I_18 : decode prog_16_method_32_code 18 = .ok (.invokevirtual 83, 3) := by decide +kernel
theorem d_AbstractStringBuilder_append_I_21 : decode prog_16_method_32_code 21 = .ok (.ifCond .eq 16, 3) := by decide +kernel
theorem d_AbstractStringBuilder_append_I_24 : decode prog_16_method_32_code 24 = .ok (.iload_n 1, 1) := by decide +kernel
theorem d_AbstractStringBuilder_append_I_25 : decode prog_16_method_32_code 25 = .ok (.iload_n 3, 1) := by decide +kernel
theorem d_AbstractStringBuilder_append_I_26 : decode prog_16_method_32_code 26 = .ok (.aload_n 0, 1) := by decide +kernel
theorem d_AbstractStringBuilder_append_I_27 : decode prog_16_method_32_code 27 = .ok (.getfield 15, 3) := by decide +kernel
theorem d_AbstractStringBuilder_append_I_30 : decode prog_16_method_32_code 30 = .ok (.invokestatic 248, 3) := by decide +kernel
theorem d_AbstractStringBuilder_append_I_33 : decode prog_16_method_32_code 33 = .ok (.pop, 1) := by decide +kernel
theorem d_AbstractStringBuilder_append_I_34 : decode prog_16_method_32_code 34 = .ok (.goto 14, 3) := by decide +kernel
theorem d_AbstractStringBuilder_append_I_37 : decode prog_16_method_32_code 37 = .ok (.iload_n 1, 1) := by decide +kernel
theorem d_AbstractStringBuilder_append_I_38 : decode prog_16_method_32_code 38 = .ok (.iload_n 2, 1) := by decide +kernel
theorem d_AbstractStringBuilder_append_I_39 : decode prog_16_method_32_code 39 = .ok (.iload_n 3, 1) := by decide +kernel
theorem d_AbstractStringBuilder_append_I_40 : decode prog_16_method_32_code 40 = .ok (.aload_n 0, 1) := by decide +kernel
theorem d_AbstractStringBuilder_append_I_41 : decode prog_16_method_32_code 41 = .ok (.getfield 15, 3) := by decide +kernel
theorem d_AbstractStringBuilder_append_I_44 : decode prog_16_method_32_code 44 = .ok (.invokestatic 251, 3) := by decide +kernel
theorem d_AbstractStringBuilder_append_I_47 : decode prog_16_method_32_code 47 = .ok (.pop, 1) := by decide +kernel
theorem d_AbstractStringBuilder_append_I_48 : decode prog_16_method_32_code 48 = .ok (.aload_n 0, 1) := by decide +kernel
theorem d_AbstractStringBuilder_append_I_49 : decode prog_16_method_32_code 49 = .ok (.iload_n 3, 1) := by decide +kernel
theorem d_AbstractStringBuilder_append_I_50 : decode prog_16_method_32_code 50 = .ok (.putfield 79, 3) := by decide +kernel
theorem d_AbstractStringBuilder_append_I_53 : decode prog_16_method_32_code 53 = .ok (.aload_n 0, 1) := by decide +kernel
theorem d_AbstractStringBuilder_append_I_54 : decode prog_16_method_32_code 54 = .ok (.areturn, 1) := by decide +kernel
set_option maxHeartbeats 4000000 in
set_option maxRecDepth 20000 in
theorem c_AbstractStringBuilder_append_I {P : xP} {F : xF} {z : Nat} {b : Nat} {v : Nat} {c : Nat} {fo : Nat} {K : Nat} {g : Nat → Nat} {x : Nat} {o1 : Nat} {o2 : Nat} (hb : F (b) = some (.inl (10, [.ref v, .int (nI 0), .int (nI 0), .int (nI (c))]))) (hv : F (v) = some (.inr (2, K, fun b9 => .int (nI (g b9))))) (hJ : xJd P fo) (hD : xDg P o1 o2) (h1 : c ≤ K ∧ K ≤ 450 ∧ c + dgs x ≤ 450) (hg : ∀ j, j < K → g j < 128) (hbv : b ≠ v ∧ b < z ∧ v < z) (hx : x < 1000) : xM P xy_AbstractStringBuilder_append_I [.ref b, .int (nI (x))] F (z) 1 1000 (fun r9 F9 z9 => ∃ v1 : Nat, ∃ K1 : Nat, ∃ g1 : Nat → Nat, ∃ zz : Nat, r9 = some (.ref b) ∧ z9 = zz ∧ F9 (b) = some (.inl (10, [.ref v1, .int (nI 0), .int (nI 0), .int (nI (c + dgs x))])) ∧ F9 (v1) = some (.inr (2, K1, fun b9 => .int (nI (g1 b9)))) ∧ ((c + dgs x ≤ K1 ∧ K ≤ K1 ∧ (K1 = K ∨ K1 = ncap K (c + dgs x) ∧ K < c + dgs x)) ∧ (∀ j, j < c → g1 j = g j) ∧ (∀ i, i < dgs x → g1 (c + i) = dgc x i) ∧ ∀ j, j < K1 → g1 j < 128) ∧ ((v1 = v ∧ zz = z) ∨ (v1 = z ∧ zz = z + 1)) ∧ (∀ a9 : Nat, (a9 < b ∨ b + 1 ≤ a9) → (a9 < v ∨ v + 1 ≤ a9) → (a9 < z ∨ z + 1 ≤ a9) → F9 a9 = F a9)) := by
  refine xM_a (by decide +kernel) (Nat.le_of_ble_eq_true rfl) (L0 := [some (.ref b), some (.int (nI (x))), none, none]) rfl rfl (by simp) fun Θ hC hret => ?_
  have hag : ∀ a9 : Nat, (a9 < b ∨ b + 1 ≤ a9) → (a9 < v ∨ v + 1 ≤ a9) → (a9 < z ∨ z + 1 ≤ a9) → F a9 = F a9 := fun a9 _ _ _ => rfl
  have hdb := dgs_b x
  refine x_aload_n hC d_AbstractStringBuilder_append_I_0 rfl rfl ?_
  refine x_getf hC kf_AbstractStringBuilder_79 hb rfl d_AbstractStringBuilder_append_I_1 ?_
  refine x_istore_n hC d_AbstractStringBuilder_append_I_4 rfl (Nat.le_of_ble_eq_true rfl) (L1 := [some (.ref b), some (.int (nI (x))), some (.int (nI (c))), none]) rfl ?_
  refine x_iload_n hC d_AbstractStringBuilder_append_I_5 rfl rfl ?_
  refine x_iload_n hC d_AbstractStringBuilder_append_I_6 rfl rfl ?_
  refine x_callS hC ks_AbstractStringBuilder_245 (c_Integer_stringSize (hx := hx)) (by decide) rfl rfl rfl (Nat.le_of_ble_eq_true rfl) (by decide) d_AbstractStringBuilder_append_I_7 (fun r9 F9 z9 hp9 => ?_)
  obtain ⟨rfl, h9b, h9c⟩ := hp9
  rw [h9b, h9c]
  clear h9b h9c F9 z9
  refine x_iadd hC d_AbstractStringBuilder_append_I_10 (v := (nI ((c) + (dgs x)))) (x_addN (by omega)) ?_
  refine x_istore_n hC d_AbstractStringBuilder_append_I_11 rfl (Nat.le_of_ble_eq_true rfl) (L1 := [some (.ref b), some (.int (nI (x))), some (.int (nI (c))), some (.int (nI ((c) + (dgs x))))]) rfl ?_
  refine x_aload_n hC d_AbstractStringBuilder_append_I_12 rfl rfl ?_
  refine x_iload_n hC d_AbstractStringBuilder_append_I_13 rfl rfl ?_
  refine x_callU hC ku_AbstractStringBuilder_100 (c_AbstractStringBuilder_ensureCapacityInternal (hb := hb) (hv := hv) (h1 := by omega) (hg := hg) (hbv := hbv)) hb rfl (by decide) rfl rfl rfl (Nat.le_of_ble_eq_true rfl) (by decide) d_AbstractStringBuilder_append_I_14 (fun r9 F9 z9 hp9 => ?_)
  obtain ⟨v1, K1, ge, zz, rfl, h9c, j0, j1, pk_14, pw_14, hag9⟩ := hp9
  rw [h9c]
  clear h9c z9
  generalize F9 = F1 at *
  have hv : F1 (v) = some (.inr (2, K, fun b9 => .int (nI (g b9)))) := (hag9 _ (by omega) (by omega)).trans hv
  have hb : F1 (b) = some (.inl (10, [.ref v1, .int (nI 0), .int (nI 0), .int (nI (c))])) := j0
  have hv1 : F1 (v1) = some (.inr (2, K1, fun b9 => .int (nI (ge b9)))) := j1
  have hag : ∀ a9 : Nat, (a9 < b ∨ b + 1 ≤ a9) → (a9 < v ∨ v + 1 ≤ a9) → (a9 < z ∨ z + 1 ≤ a9) → F1 a9 = F a9 := fun a9 q0 q1 q2 => (hag9 a9 (by omega) (by omega)).trans (hag a9 q0 q1 q2)
  have hg_14 := hag9
  clear hag9
  have hK9 : K1 ≤ 9000 := by rcases pk_14.1.2.2 with e | ⟨e, e2⟩ <;> first | omega | (have := ncap_b e2; omega)
  refine x_aload_n hC d_AbstractStringBuilder_append_I_17 rfl rfl ?_
  refine x_callU hC ku_AbstractStringBuilder_83 (c_AbstractStringBuilder_isLatin1 (hb := hb) (hJ := hJ) (fo := fo)) hb rfl (by decide) rfl rfl rfl (Nat.le_of_ble_eq_true rfl) (by decide) d_AbstractStringBuilder_append_I_18 (fun r9 F9 z9 hp9 => ?_)
  obtain ⟨rfl, h9b, h9c⟩ := hp9
  rw [h9b, h9c]
  clear h9b h9c F9 z9
  refine x_ifN_eq hC d_AbstractStringBuilder_append_I_21 (tgt := 37) (by decide) (by omega) (fun c_21 => ?_) (fun c_21 => ?_)
  · skip
    exact absurd c_21 (by omega)
  · skip
    refine x_iload_n hC d_AbstractStringBuilder_append_I_24 rfl rfl ?_
    refine x_iload_n hC d_AbstractStringBuilder_append_I_25 rfl rfl ?_
    refine x_aload_n hC d_AbstractStringBuilder_append_I_26 rfl rfl ?_
    refine x_getf hC kf_AbstractStringBuilder_15 hb rfl d_AbstractStringBuilder_append_I_27 ?_
    refine x_callS hC ks_AbstractStringBuilder_248 (c_Integer_getChars (hd := hv1) (hD := hD) (hx := hx) (hq := by omega) (o1 := o1) (o2 := o2)) (by decide) rfl rfl rfl (Nat.le_of_ble_eq_true rfl) (by decide) d_AbstractStringBuilder_append_I_30 (fun r9 F9 z9 hp9 => ?_)
    obtain ⟨gn, rfl, h9c, j0, pk_30, hag9⟩ := hp9
    rw [h9c]
    clear h9c z9
    generalize F9 = F2 at *
    have hb : F2 (b) = some (.inl (10, [.ref v1, .int (nI 0), .int (nI 0), .int (nI (c))])) := (hag9 _ (by omega)).trans hb
    have hv1 : F2 (v1) = some (.inr (2, K1, fun b9 => .int (nI (gn b9)))) := j0
    have hag : ∀ a9 : Nat, (a9 < b ∨ b + 1 ≤ a9) → (a9 < v ∨ v + 1 ≤ a9) → (a9 < z ∨ z + 1 ≤ a9) → F2 a9 = F a9 := fun a9 q0 q1 q2 => (hag9 a9 (by omega)).trans (hag a9 q0 q1 q2)
    have hg_30 := hag9
    clear hag9
    refine x_pop hC d_AbstractStringBuilder_append_I_33 rfl ?_
    refine x_goto hC d_AbstractStringBuilder_append_I_34 (tgt := 48) (by decide) ?_
    refine x_aload_n hC d_AbstractStringBuilder_append_I_48 rfl rfl ?_
    refine x_iload_n hC d_AbstractStringBuilder_append_I_49 rfl rfl ?_
    refine x_putf hC kf_AbstractStringBuilder_79 hb (Nat.le_of_ble_eq_true rfl) rfl rfl d_AbstractStringBuilder_append_I_50 (fs1 := [.ref v1, .int (nI 0), .int (nI 0), .int (nI ((c) + (dgs x)))]) rfl ?_
    generalize e3 : xup F2 (b) (.inl (10, [.ref v1, .int (nI 0), .int (nI 0), .int (nI ((c) + (dgs x)))])) = F3
    have hb : F3 (b) = some (.inl (10, [.ref v1, .int (nI 0), .int (nI 0), .int (nI ((c) + (dgs x)))])) := by rw [← e3]; exact xup_eq
    have hv1 : F3 (v1) = some (.inr (2, K1, fun b9 => .int (nI (gn b9)))) := by rw [← e3]; exact (xup_ne (by omega)).trans hv1
    have hag : ∀ a9 : Nat, (a9 < b ∨ b + 1 ≤ a9) → (a9 < v ∨ v + 1 ≤ a9) → (a9 < z ∨ z + 1 ≤ a9) → F3 a9 = F a9 := fun a9 q0 q1 q2 => by rw [← e3]; exact (xup_ne (by omega)).trans (hag a9 q0 q1 q2)
    refine x_aload_n hC d_AbstractStringBuilder_append_I_53 rfl rfl ?_
    exact hret _ _ _ _ _ _ _ d_AbstractStringBuilder_append_I_54 (by decide) (by decide) (Or.inr ⟨_, rfl⟩) (⟨v1, K1, gn, zz, rfl, rfl, hb, hv1, ⟨pk_14.1, fun j hj => (pk_30.2 j (Or.inl (by omega))).trans (pk_14.2.1 j (by omega)), fun i hi => by have h9 := pk_30.1 i hi; rwa [show c + dgs x - dgs x + i = c + i by omega] at h9, fun j hj => (Classical.em (c ≤ j ∧ j < c + dgs x)).elim (fun q => by have h9 := pk_30.1 (j - c) (by omega); rw [show c + dgs x - dgs x + (j - c) = j by omega] at h9; rw [h9]; have := dgc_b x (j - c); omega) (fun q => by rw [pk_30.2 j (by omega)]; exact pk_14.2.2 j hj)⟩, pw_14, hag⟩)

theorem d_StringBuilder_append_I_0 : decode prog_34_method_15_code 0 = .ok (.aload_n 0, 1) := by decide +kernel
theorem d_StringBuilder_append_I_1 : decode prog_34_method_15_code 1 = .ok (.iload_n 1, 1) := by decide +kernel
theorem d_StringBuilder_append_I_2 : decode prog_34_method_15_code 2 = .ok (.invokespecial 53, 3) := by decide +kernel
theorem d_StringBuilder_append_I_5 : decode prog_34_method_15_code 5 = .ok (.pop, 1) := by decide +kernel
theorem d_StringBuilder_append_I_6 : decode prog_34_method_15_code 6 = .ok (.aload_n 0, 1) := by decide +kernel
theorem d_StringBuilder_append_I_7 : decode prog_34_method_15_code 7 = .ok (.areturn, 1) := by decide +kernel
set_option maxHeartbeats 4000000 in
set_option maxRecDepth 20000 in
theorem c_StringBuilder_append_I {P : xP} {F : xF} {z : Nat} {b : Nat} {v : Nat} {c : Nat} {fo : Nat} {K : Nat} {g : Nat → Nat} {x : Nat} {o1 : Nat} {o2 : Nat} (hb : F (b) = some (.inl (10, [.ref v, .int (nI 0), .int (nI 0), .int (nI (c))]))) (hv : F (v) = some (.inr (2, K, fun b9 => .int (nI (g b9))))) (hJ : xJd P fo) (hD : xDg P o1 o2) (h1 : c ≤ K ∧ K ≤ 450 ∧ c + dgs x ≤ 450) (hg : ∀ j, j < K → g j < 128) (hbv : b ≠ v ∧ b < z ∧ v < z) (hx : x < 1000) : xM P xy_StringBuilder_append_I [.ref b, .int (nI (x))] F (z) 1 1000 (fun r9 F9 z9 => ∃ v1 : Nat, ∃ K1 : Nat, ∃ g1 : Nat → Nat, ∃ zz : Nat, r9 = some (.ref b) ∧ z9 = zz ∧ F9 (b) = some (.inl (10, [.ref v1, .int (nI 0), .int (nI 0), .int (nI (c + dgs x))])) ∧ F9 (v1) = some (.inr (2, K1, fun b9 => .int (nI (g1 b9)))) ∧ ((c + dgs x ≤ K1 ∧ K ≤ K1 ∧ (K1 = K ∨ K1 = ncap K (c + dgs x) ∧ K < c + dgs x)) ∧ (∀ j, j < c → g1 j = g j) ∧ (∀ i, i < dgs x → g1 (c + i) = dgc x i) ∧ ∀ j, j < K1 → g1 j < 128) ∧ ((v1 = v ∧ zz = z) ∨ (v1 = z ∧ zz = z + 1)) ∧ (∀ a9 : Nat, (a9 < b ∨ b + 1 ≤ a9) → (a9 < v ∨ v + 1 ≤ a9) → (a9 < z ∨ z + 1 ≤ a9) → F9 a9 = F a9)) := by
  refine xM_a (by decide +kernel) (Nat.le_of_ble_eq_true rfl) (L0 := [some (.ref b), some (.int (nI (x)))]) rfl rfl (by simp) fun Θ hC hret => ?_
  have hag : ∀ a9 : Nat, (a9 < b ∨ b + 1 ≤ a9) → (a9 < v ∨ v + 1 ≤ a9) → (a9 < z ∨ z + 1 ≤ a9) → F a9 = F a9 := fun a9 _ _ _ => rfl
  refine x_aload_n hC d_StringBuilder_append_I_0 rfl rfl ?_
  refine x_iload_n hC d_StringBuilder_append_I_1 rfl rfl ?_
  refine x_callQ hC kq_StringBuilder_53 (c_AbstractStringBuilder_append_I (hb := hb) (hv := hv) (hJ := hJ) (hD := hD) (h1 := h1) (hg := hg) (hbv := hbv) (hx := hx) (fo := fo) (o1 := o1) (o2 := o2)) hb rfl (by decide) rfl rfl rfl (Nat.le_of_ble_eq_true rfl) (by decide) d_StringBuilder_append_I_2 (fun r9 F9 z9 hp9 => ?_)
  obtain ⟨v1, K1, g1, zz, rfl, h9c, j0, j1, pk_2, pw_2, hag9⟩ := hp9
  rw [h9c]
  clear h9c z9
  generalize F9 = F1 at *
  have hb : F1 (b) = some (.inl (10, [.ref v1, .int (nI 0), .int (nI 0), .int (nI (c + dgs x))])) := j0
  have hv1 : F1 (v1) = some (.inr (2, K1, fun b9 => .int (nI (g1 b9)))) := j1
  have hag : ∀ a9 : Nat, (a9 < b ∨ b + 1 ≤ a9) → (a9 < v ∨ v + 1 ≤ a9) → (a9 < z ∨ z + 1 ≤ a9) → F1 a9 = F a9 := fun a9 q0 q1 q2 => (hag9 a9 (by omega) (by omega) (by omega)).trans (hag a9 q0 q1 q2)
  have hg_2 := hag9
  clear hag9
  refine x_pop hC d_StringBuilder_append_I_5 rfl ?_
  refine x_aload_n hC d_StringBuilder_append_I_6 rfl rfl ?_
  exact hret _ _ _ _ _ _ _ d_StringBuilder_append_I_7 (by decide) (by decide) (Or.inr ⟨_, rfl⟩) (⟨v1, K1, g1, zz, rfl, rfl, hb, hv1, pk_2, pw_2, hag⟩)

set_option maxHeartbeats 4000000 in
set_option maxRecDepth 20000 in
theorem c_Preconditions_checkIndexB {P : xP} {F : xF} {z : Nat} {i : Nat} {n : Nat} {fo : Nat}  (hi : i < n) (hn : n ≤ 9000) : xM P xy_Preconditions_checkIndex [.int (nI (i)), .int (nI (n)), .ref fo] F (z) 0 0 (fun r9 F9 z9 => r9 = some (.int (nI (i))) ∧ F9 = F ∧ z9 = z) := by
  refine xM_i .int (by decide +kernel) (Nat.le_of_ble_eq_true rfl) (L0 := [some (.int (nI (i))), some (.int (nI (n))), some (.ref fo)]) rfl rfl fun Θ hC hret => ?_
  refine x_iload_n hC d_Preconditions_checkIndex_0 rfl rfl ?_
  refine x_ifN_lt hC d_Preconditions_checkIndex_1 (tgt := 9) (by decide) (by omega) (fun c_1 => ?_) (fun c_1 => ?_)
  · skip
    exact c_1.elim
  · skip
    refine x_iload_n hC d_Preconditions_checkIndex_4 rfl rfl ?_
    refine x_iload_n hC d_Preconditions_checkIndex_5 rfl rfl ?_
    refine x_icmpN_lt hC d_Preconditions_checkIndex_6 (tgt := 16) (by decide) (by omega) (by omega) (fun c_6 => ?_) (fun c_6 => ?_)
    · skip
      refine x_iload_n hC d_Preconditions_checkIndex_16 rfl rfl ?_
      exact hret _ _ _ _ _ _ _ d_Preconditions_checkIndex_17 (by decide) (by decide) rfl (⟨rfl, rfl, rfl⟩)
    · skip
      exact absurd c_6 (by omega)

set_option maxHeartbeats 4000000 in
set_option maxRecDepth 20000 in
theorem c_Preconditions_checkIndexBN {P : xP} {F : xF} {z : Nat} {i : Nat} {n : Nat}  (hi : i < n) (hn : n ≤ 9000) : xM P xy_Preconditions_checkIndex [.int (nI (i)), .int (nI (n)), .null] F (z) 0 0 (fun r9 F9 z9 => r9 = some (.int (nI (i))) ∧ F9 = F ∧ z9 = z) := by
  refine xM_i .int (by decide +kernel) (Nat.le_of_ble_eq_true rfl) (L0 := [some (.int (nI (i))), some (.int (nI (n))), some (.null)]) rfl rfl fun Θ hC hret => ?_
  refine x_iload_n hC d_Preconditions_checkIndex_0 rfl rfl ?_
  refine x_ifN_lt hC d_Preconditions_checkIndex_1 (tgt := 9) (by decide) (by omega) (fun c_1 => ?_) (fun c_1 => ?_)
  · skip
    exact c_1.elim
  · skip
    refine x_iload_n hC d_Preconditions_checkIndex_4 rfl rfl ?_
    refine x_iload_n hC d_Preconditions_checkIndex_5 rfl rfl ?_
    refine x_icmpN_lt hC d_Preconditions_checkIndex_6 (tgt := 16) (by decide) (by omega) (by omega) (fun c_6 => ?_) (fun c_6 => ?_)
    · skip
      refine x_iload_n hC d_Preconditions_checkIndex_16 rfl rfl ?_
      exact hret _ _ _ _ _ _ _ d_Preconditions_checkIndex_17 (by decide) (by decide) rfl (⟨rfl, rfl, rfl⟩)
    · skip
      exact absurd c_6 (by omega)

set_option maxHeartbeats 4000000 in
set_option maxRecDepth 20000 in
theorem c_String_checkIndexBR {P : xP} {F : xF} {z : Nat} {i : Nat} {n : Nat} {fo : Nat}  (hi : i < n) (hn : n ≤ 9000) (hF : ∀ U, P.2.2.2.2 U → va_Z "jdk/internal/util/Preconditions" "SIOOBE_FORMATTER" "Ljava/util/function/BiFunction;" (.ref fo) (xA0 P) U P.2.2.1) : xM P xy_String_checkIndex [.int (nI (i)), .int (nI (n))] F (z) 0 0 (fun r9 F9 z9 => r9 = none ∧ F9 = F ∧ z9 = z) := by
  refine xM_v (by decide +kernel) (Nat.le_of_ble_eq_true rfl) (L0 := [some (.int (nI (i))), some (.int (nI (n)))]) rfl rfl fun Θ hC hin hret => ?_
  refine x_iload_n hC d_String_checkIndex_0 rfl rfl ?_
  refine x_iload_n hC d_String_checkIndex_1 rfl rfl ?_
  refine x_gets hC (v := .ref fo) hF (x_in (x_of (xtb_5 (List.mem_of_getElem? (i := 233) (by decide +kernel)))) (by decide +kernel)) d_String_checkIndex_2 ?_
  refine x_callS hC ks_String_1059 (c_Preconditions_checkIndexB (hi := by omega) (hn := by omega)) (by decide) rfl rfl rfl (Nat.le_of_ble_eq_true rfl) (by decide) d_String_checkIndex_5 (fun r9 F9 z9 hp9 => ?_)
  obtain ⟨rfl, h9b, h9c⟩ := hp9
  rw [h9b, h9c]
  clear h9b h9c F9 z9
  refine x_pop hC d_String_checkIndex_8 rfl ?_
  exact hret _ _ _ _ _ _ d_String_checkIndex_9 (by decide) (by decide) (⟨rfl, rfl, rfl⟩)

set_option maxHeartbeats 4000000 in
set_option maxRecDepth 20000 in
theorem c_String_checkIndexBN {P : xP} {F : xF} {z : Nat} {i : Nat} {n : Nat}  (hi : i < n) (hn : n ≤ 9000) (hF : ∀ U, P.2.2.2.2 U → va_Z "jdk/internal/util/Preconditions" "SIOOBE_FORMATTER" "Ljava/util/function/BiFunction;" (.null) (xA0 P) U P.2.2.1) : xM P xy_String_checkIndex [.int (nI (i)), .int (nI (n))] F (z) 0 0 (fun r9 F9 z9 => r9 = none ∧ F9 = F ∧ z9 = z) := by
  refine xM_v (by decide +kernel) (Nat.le_of_ble_eq_true rfl) (L0 := [some (.int (nI (i))), some (.int (nI (n)))]) rfl rfl fun Θ hC hin hret => ?_
  refine x_iload_n hC d_String_checkIndex_0 rfl rfl ?_
  refine x_iload_n hC d_String_checkIndex_1 rfl rfl ?_
  refine x_gets hC (v := .null) hF (x_in (x_of (xtb_5 (List.mem_of_getElem? (i := 233) (by decide +kernel)))) (by decide +kernel)) d_String_checkIndex_2 ?_
  refine x_callS hC ks_String_1059 (c_Preconditions_checkIndexBN (hi := by omega) (hn := by omega)) (by decide) rfl rfl rfl (Nat.le_of_ble_eq_true rfl) (by decide) d_String_checkIndex_5 (fun r9 F9 z9 hp9 => ?_)
  obtain ⟨rfl, h9b, h9c⟩ := hp9
  rw [h9b, h9c]
  clear h9b h9c F9 z9
  refine x_pop hC d_String_checkIndex_8 rfl ?_
  exact hret _ _ _ _ _ _ d_String_checkIndex_9 (by decide) (by decide) (⟨rfl, rfl, rfl⟩)

theorem c_String_checkIndexB {P : xP} {F : xF} {z : Nat} {i : Nat} {n : Nat} {fo : Nat}  (hi : i < n) (hn : n ≤ 9000) (hF : ∀ U, P.2.2.2.2 U → va_Z "jdk/internal/util/Preconditions" "SIOOBE_FORMATTER" "Ljava/util/function/BiFunction;" (fvS fo) (xA0 P) U P.2.2.1) : xM P xy_String_checkIndex [.int (nI (i)), .int (nI (n))] F (z) 0 0 (fun r9 F9 z9 => r9 = none ∧ F9 = F ∧ z9 = z) := by
  by_cases h0 : fo = 0
  · exact c_String_checkIndexBN hi hn (fun U hU => by have h9 := hF U hU; rw [h0] at h9; exact h9)
  · exact c_String_checkIndexBR (fo := fo - 1) hi hn (fun U hU => by have h9 := hF U hU; rw [show fvS fo = .ref (fo - 1) from if_neg h0] at h9; exact h9)
set_option maxHeartbeats 4000000 in
set_option maxRecDepth 20000 in
theorem c_StringLatin1_charAtJ {P : xP} {F : xF} {z : Nat} {w : Nat} {n : Nat} {u : Nat → Nat} {fo : Nat} {i : Nat} (hw : F (w) = some (.inr (2, n, fun b9 => .int (nI (u b9))))) (hJ : xJd P fo) (hi : i < n) (hn : n ≤ 9000) (hu : u i < 128) : xM P xy_StringLatin1_charAt [.ref w, .int (nI (i))] F (z) 0 0 (fun r9 F9 z9 => r9 = some (.int (nI (u i))) ∧ F9 = F ∧ z9 = z) := by
  refine xM_i .char (by decide +kernel) (Nat.le_of_ble_eq_true rfl) (L0 := [some (.ref w), some (.int (nI (i)))]) rfl rfl fun Θ hC hret => ?_
  refine x_iload_n hC d_StringLatin1_charAt_0 rfl rfl ?_
  refine x_aload_n hC d_StringLatin1_charAt_1 rfl rfl ?_
  refine x_alen hC hw (by decide) rfl d_StringLatin1_charAt_2 ?_
  refine x_callS hC ks_StringLatin1_9 (c_String_checkIndexB (hi := by omega) (hn := by omega) (hF := hJ.2) (fo := fo)) (by decide) rfl rfl rfl (Nat.le_of_ble_eq_true rfl) (by decide) d_StringLatin1_charAt_3 (fun r9 F9 z9 hp9 => ?_)
  obtain ⟨rfl, h9b, h9c⟩ := hp9
  rw [h9b, h9c]
  clear h9b h9c F9 z9
  refine x_aload_n hC d_StringLatin1_charAt_6 rfl rfl ?_
  refine x_iload_n hC d_StringLatin1_charAt_7 rfl rfl ?_
  refine x_bald hC hw (j := i) ⟨rfl, by omega, by omega⟩ (x := nI (u (i))) rfl d_StringLatin1_charAt_8 ?_
  refine x_sipush hC d_StringLatin1_charAt_9 (v := nI 255) (by decide) ?_
  refine x_iand hC d_StringLatin1_charAt_12 (v := (nI (u i))) (and_255 _ hu) ?_
  refine x_i2c hC d_StringLatin1_charAt_13 (v := (nI (u i))) (x_i2cN (by omega)) ?_
  exact hret _ _ _ _ _ _ _ d_StringLatin1_charAt_14 (by decide) (by decide) (x_char _ (by omega)) (⟨rfl, rfl, rfl⟩)

set_option maxHeartbeats 4000000 in
set_option maxRecDepth 20000 in
theorem c_String_charAtJ {P : xP} {F : xF} {z : Nat} {s : Nat} {w : Nat} {n : Nat} {u : Nat → Nat} {fo : Nat} {i : Nat} (hs : F (s) = some (.inl (11, [.ref w, .int (nI 0), .int (nI 0), .int (nI 0)]))) (hw : F (w) = some (.inr (2, n, fun b9 => .int (nI (u b9))))) (hJ : xJd P fo) (hi : i < n) (hn : n ≤ 9000) (hu : u i < 128) : xM P xy_String_charAt [.ref s, .int (nI (i))] F (z) 0 0 (fun r9 F9 z9 => r9 = some (.int (nI (u i))) ∧ F9 = F ∧ z9 = z) := by
  refine xM_i .char (by decide +kernel) (Nat.le_of_ble_eq_true rfl) (L0 := [some (.ref s), some (.int (nI (i)))]) rfl rfl fun Θ hC hret => ?_
  refine x_aload_n hC d_String_charAt_0 rfl rfl ?_
  refine x_callV hC kv_String_492 (c_String_isLatin1J (hs := hs) (hJ := hJ) (fo := fo)) hs rfl rfl (by decide) rfl rfl rfl (Nat.le_of_ble_eq_true rfl) (by decide) d_String_charAt_1 (fun r9 F9 z9 hp9 => ?_)
  obtain ⟨rfl, h9b, h9c⟩ := hp9
  rw [h9b, h9c]
  clear h9b h9c F9 z9
  refine x_ifN_eq hC d_String_charAt_4 (tgt := 16) (by decide) (by omega) (fun c_4 => ?_) (fun c_4 => ?_)
  · skip
    exact absurd c_4 (by omega)
  · skip
    refine x_aload_n hC d_String_charAt_7 rfl rfl ?_
    refine x_getf hC kf_String_9 hs rfl d_String_charAt_8 ?_
    refine x_iload_n hC d_String_charAt_11 rfl rfl ?_
    refine x_callS hC ks_String_495 (c_StringLatin1_charAtJ (hw := hw) (hJ := hJ) (hi := hi) (hn := hn) (hu := hu) (fo := fo)) (by decide) rfl rfl rfl (Nat.le_of_ble_eq_true rfl) (by decide) d_String_charAt_12 (fun r9 F9 z9 hp9 => ?_)
    obtain ⟨rfl, h9b, h9c⟩ := hp9
    rw [h9b, h9c]
    clear h9b h9c F9 z9
    exact hret _ _ _ _ _ _ _ d_String_charAt_15 (by decide) (by decide) (x_char _ (by omega)) (⟨rfl, rfl, rfl⟩)

def fmis (u y : Nat → Nat) : Nat → Nat
  | 0 => 0
  | n + 1 => if eqTo u y n = true then n else fmis u y n
def xmm (u y : Nat → Nat) (n : Nat) : Int32 := if eqTo u y n = true then -1 else nI (fmis u y n)
theorem fmis_at {u y : Nat → Nat} {i : Nat} (h : ∀ j, j < i → u j = y j) (hne : ¬ u i = y i) : ∀ n, i < n → eqTo u y n = false ∧ fmis u y n = i
  | 0, hn => absurd hn (by omega)
  | n + 1, hn => by
    have hf : eqTo u y (n + 1) = false := by
      cases e : eqTo u y (n + 1) with
      | false => rfl
      | true => exact absurd ((eqTo_iff u y (n + 1)).mp e i hn) hne
    refine ⟨hf, ?_⟩
    rw [fmis]
    by_cases q : i = n
    · subst q
      rw [if_pos ((eqTo_iff u y i).mpr h)]
    · obtain ⟨h1, h2⟩ := fmis_at h hne n (by omega)
      rw [if_neg (by rw [h1]; decide)]
      exact h2
theorem xmm_ge {u y : Nat → Nat} {n : Nat} (hn : n ≤ 1000) : 0 ≤ xmm u y n ↔ ¬ eqTo u y n = true := by
  have hle : ∀ n, fmis u y n ≤ n := by
    intro n
    induction n with
    | zero => exact Nat.le_refl _
    | succ n ih => rw [fmis]; split <;> omega
  unfold xmm
  by_cases h : eqTo u y n = true
  · rw [if_pos h]
    exact ⟨fun q => absurd q (by decide), fun q => absurd h q⟩
  · rw [if_neg h]
    refine ⟨fun _ => h, fun _ => ?_⟩
    rw [show (0 : Int32) = nI 0 from rfl]
    have := hle n
    exact (nI_leI (by decide) (by omega)).mpr (by omega)
theorem d_ArraysSupport_mismatch_0 : decode prog_45_method_14_code 0 = .ok (.iconst 0, 1) := by decide +kernel
theorem d_ArraysSupport_mismatch_1 : decode prog_45_method_14_code 1 = .ok (.istore 5, 2) := by decide +kernel
theorem d_ArraysSupport_mismatch_3 : decode prog_45_method_14_code 3 = .ok (.iload 4, 2) := by decide +kernel
theorem d_ArraysSupport_mismatch_5 : decode prog_45_method_14_code 5 = .ok (.bipush 7, 2) := by decide +kernel
theorem d_ArraysSupport_mismatch_7 : decode prog_45_method_14_code 7 = .ok (.if_icmp .le 63, 3) := by decide +kernel
theorem d_ArraysSupport_mismatch_10 : decode prog_45_method_14_code 10 = .ok (.aload_n 0, 1) := by decide +kernel
theorem d_ArraysSupport_mismatch_11 : decode prog_45_method_14_code 11 = .ok (.iload_n 1, 1) := by decide +kernel
theorem d_ArraysSupport_mismatch_12 : decode prog_45_method_14_code 12 = .ok (.baload, 1) := by decide +kernel
theorem d_ArraysSupport_mismatch_13 : decode prog_45_method_14_code 13 = .ok (.aload_n 2, 1) := by decide +kernel
theorem d_ArraysSupport_mismatch_14 : decode prog_45_method_14_code 14 = .ok (.iload_n 3, 1) := by decide +kernel
theorem d_ArraysSupport_mismatch_15 : decode prog_45_method_14_code 15 = .ok (.baload, 1) := by decide +kernel
theorem d_ArraysSupport_mismatch_16 : decode prog_45_method_14_code 16 = .ok (.if_icmp .eq 5, 3) := by decide +kernel
theorem d_ArraysSupport_mismatch_19 : decode prog_45_method_14_code 19 = .ok (.iconst 0, 1) := by decide +kernel
theorem d_ArraysSupport_mismatch_20 : decode prog_45_method_14_code 20 = .ok (.ireturn, 1) := by decide +kernel
theorem d_ArraysSupport_mismatch_21 : decode prog_45_method_14_code 21 = .ok (.getstatic 126, 3) := by decide +kernel
theorem d_ArraysSupport_mismatch_24 : decode prog_45_method_14_code 24 = .ok (.iload_n 1, 1) := by decide +kernel
theorem d_ArraysSupport_mismatch_25 : decode prog_45_method_14_code 25 = .ok (.iadd, 1) := by decide +kernel
theorem d_ArraysSupport_mismatch_26 : decode prog_45_method_14_code 26 = .ok (.istore 6, 2) := by decide +kernel
theorem d_ArraysSupport_mismatch_28 : decode prog_45_method_14_code 28 = .ok (.getstatic 126, 3) := by decide +kernel
theorem d_ArraysSupport_mismatch_31 : decode prog_45_method_14_code 31 = .ok (.iload_n 3, 1) := by decide +kernel
theorem d_ArraysSupport_mismatch_32 : decode prog_45_method_14_code 32 = .ok (.iadd, 1) := by decide +kernel
theorem d_ArraysSupport_mismatch_33 : decode prog_45_method_14_code 33 = .ok (.istore 7, 2) := by decide +kernel
theorem d_ArraysSupport_mismatch_35 : decode prog_45_method_14_code 35 = .ok (.aload_n 0, 1) := by decide +kernel
theorem d_ArraysSupport_mismatch_36 : decode prog_45_method_14_code 36 = .ok (.iload 6, 2) := by decide +kernel
theorem d_ArraysSupport_mismatch_38 : decode prog_45_method_14_code 38 = .ok (.i2l, 1) := by decide +kernel
theorem d_ArraysSupport_mismatch_39 : decode prog_45_method_14_code 39 = .ok (.aload_n 2, 1) := by decide +kernel
theorem d_ArraysSupport_mismatch_40 : decode prog_45_method_14_code 40 = .ok (.iload 7, 2) := by decide +kernel
theorem d_ArraysSupport_mismatch_42 : decode prog_45_method_14_code 42 = .ok (.i2l, 1) := by decide +kernel
theorem d_ArraysSupport_mismatch_43 : decode prog_45_method_14_code 43 = .ok (.iload 4, 2) := by decide +kernel
theorem d_ArraysSupport_mismatch_45 : decode prog_45_method_14_code 45 = .ok (.getstatic 129, 3) := by decide +kernel
theorem d_ArraysSupport_mismatch_48 : decode prog_45_method_14_code 48 = .ok (.invokestatic 122, 3) := by decide +kernel
theorem d_ArraysSupport_mismatch_51 : decode prog_45_method_14_code 51 = .ok (.istore 5, 2) := by decide +kernel
theorem d_ArraysSupport_mismatch_53 : decode prog_45_method_14_code 53 = .ok (.iload 5, 2) := by decide +kernel
theorem d_ArraysSupport_mismatch_55 : decode prog_45_method_14_code 55 = .ok (.ifCond .lt 6, 3) := by decide +kernel
theorem d_ArraysSupport_mismatch_58 : decode prog_45_method_14_code 58 = .ok (.iload 5, 2) := by decide +kernel
theorem d_ArraysSupport_mismatch_60 : decode prog_45_method_14_code 60 = .ok (.ireturn, 1) := by decide +kernel
theorem d_ArraysSupport_mismatch_61 : decode prog_45_method_14_code 61 = .ok (.iload 4, 2) := by decide +kernel
theorem d_ArraysSupport_mismatch_63 : decode prog_45_method_14_code 63 = .ok (.iload 5, 2) := by decide +kernel
theorem d_ArraysSupport_mismatch_65 : decode prog_45_method_14_code 65 = .ok (.iconst (-1), 1) := by decide +kernel
theorem d_ArraysSupport_mismatch_66 : decode prog_45_method_14_code 66 = .ok (.ixor, 1) := by decide +kernel
theorem d_ArraysSupport_mismatch_67 : decode prog_45_method_14_code 67 = .ok (.isub, 1) := by decide +kernel
theorem d_ArraysSupport_mismatch_68 : decode prog_45_method_14_code 68 = .ok (.istore 5, 2) := by decide +kernel
theorem d_ArraysSupport_mismatch_70 : decode prog_45_method_14_code 70 = .ok (.iload 5, 2) := by decide +kernel
theorem d_ArraysSupport_mismatch_72 : decode prog_45_method_14_code 72 = .ok (.iload 4, 2) := by decide +kernel
theorem d_ArraysSupport_mismatch_74 : decode prog_45_method_14_code 74 = .ok (.if_icmp .ge 27, 3) := by decide +kernel
theorem d_ArraysSupport_mismatch_77 : decode prog_45_method_14_code 77 = .ok (.aload_n 0, 1) := by decide +kernel
theorem d_ArraysSupport_mismatch_78 : decode prog_45_method_14_code 78 = .ok (.iload_n 1, 1) := by decide +kernel
theorem d_ArraysSupport_mismatch_79 : decode prog_45_method_14_code 79 = .ok (.iload 5, 2) := by decide +kernel
theorem d_ArraysSupport_mismatch_81 : decode prog_45_method_14_code 81 = .ok (.iadd, 1) := by decide +kernel
theorem d_ArraysSupport_mismatch_82 : decode prog_45_method_14_code 82 = .ok (.baload, 1) := by decide +kernel
theorem d_ArraysSupport_mismatch_83 : decode prog_45_method_14_code 83 = .ok (.aload_n 2, 1) := by decide +kernel
theorem d_ArraysSupport_mismatch_84 : decode prog_45_method_14_code 84 = .ok (.iload_n 3, 1) := by decide +kernel
theorem d_ArraysSupport_mismatch_85 : decode prog_45_method_14_code 85 = .ok (.iload 5, 2) := by decide +kernel
theorem d_ArraysSupport_mismatch_87 : decode prog_45_method_14_code 87 = .ok (.iadd, 1) := by decide +kernel
theorem d_ArraysSupport_mismatch_88 : decode prog_45_method_14_code 88 = .ok (.baload, 1) := by decide +kernel
theorem d_ArraysSupport_mismatch_89 : decode prog_45_method_14_code 89 = .ok (.if_icmp .eq 6, 3) := by decide +kernel
theorem d_ArraysSupport_mismatch_92 : decode prog_45_method_14_code 92 = .ok (.iload 5, 2) := by decide +kernel
theorem d_ArraysSupport_mismatch_94 : decode prog_45_method_14_code 94 = .ok (.ireturn, 1) := by decide +kernel
theorem d_ArraysSupport_mismatch_95 : decode prog_45_method_14_code 95 = .ok (.iinc 5 1, 3) := by decide +kernel
theorem d_ArraysSupport_mismatch_98 : decode prog_45_method_14_code 98 = .ok (.goto (-28), 3) := by decide +kernel
theorem d_ArraysSupport_mismatch_101 : decode prog_45_method_14_code 101 = .ok (.iconst (-1), 1) := by decide +kernel
theorem d_ArraysSupport_mismatch_102 : decode prog_45_method_14_code 102 = .ok (.ireturn, 1) := by decide +kernel
set_option maxHeartbeats 4000000 in
set_option maxRecDepth 20000 in
theorem c_ArraysSupport_mismatch {P : xP} {F : xF} {z : Nat} {w : Nat} {n : Nat} {u : Nat → Nat} {y0 : Nat} {n2 : Nat} {y : Nat → Nat} (hw : F (w) = some (.inr (2, n, fun b9 => .int (nI (u b9))))) (hy : F (y0) = some (.inr (2, n2, fun b9 => .int (nI (y b9))))) (h1 : n2 ≤ n ∧ n2 ≤ 7 ∧ n ≤ 1000) (hu : ∀ j, j < n → u j < 128) (hy2 : ∀ j, j < n2 → y j < 128) : xM P xy_ArraysSupport_mismatch [.ref w, .int (nI 0), .ref y0, .int (nI 0), .int (nI (n2))] F (z) 0 0 (fun r9 F9 z9 => r9 = some (.int (xmm u y n2)) ∧ F9 = F ∧ z9 = z) := by
  refine xM_i .int (by decide +kernel) (Nat.le_of_ble_eq_true rfl) (L0 := [some (.ref w), some (.int (nI 0)), some (.ref y0), some (.int (nI 0)), some (.int (nI (n2))), none, none, none]) rfl rfl fun Θ hC hret => ?_
  refine x_iconst hC d_ArraysSupport_mismatch_0 (v := nI 0) (by decide) ?_
  refine x_istore hC d_ArraysSupport_mismatch_1 (Nat.le_of_ble_eq_true rfl) (L1 := [some (.ref w), some (.int (nI 0)), some (.ref y0), some (.int (nI 0)), some (.int (nI (n2))), some (.int (nI 0)), none, none]) rfl ?_
  refine x_iload hC d_ArraysSupport_mismatch_3 rfl ?_
  refine x_bipush hC d_ArraysSupport_mismatch_5 (v := nI 7) (by decide) ?_
  refine x_icmpN_le hC d_ArraysSupport_mismatch_7 (tgt := 70) (by decide) (by omega) (by omega) (fun c_7 => ?_) (fun c_7 => ?_)
  · skip
    have loop_70 : ∀ (m9 : Nat) (i : Nat), (F (w) = some (.inr (2, n, fun b9 => .int (nI (u b9))))) → (F (y0) = some (.inr (2, n2, fun b9 => .int (nI (y b9))))) → (i ≤ n2) → (∀ j, j < i → u j = y j) → (n2 - i < m9) → xX P Θ 70 [some (.ref w), some (.int (nI 0)), some (.ref y0), some (.int (nI 0)), some (.int (nI (n2))), some (.int (nI (i))), none, none] [] F (z) 0 0 := by
      intro m9
      induction m9 with
      | zero => intros; omega
      | succ m9 ih_70 =>
        intro  i hw hy hi k1 hm_70
        refine x_iload hC d_ArraysSupport_mismatch_70 rfl ?_
        refine x_iload hC d_ArraysSupport_mismatch_72 rfl ?_
        refine x_icmpN_ge hC d_ArraysSupport_mismatch_74 (tgt := 101) (by decide) (by omega) (by omega) (fun c_74 => ?_) (fun c_74 => ?_)
        · skip
          refine x_iconst hC d_ArraysSupport_mismatch_101 (v := -1) (by decide) ?_
          exact hret _ _ _ _ _ _ _ d_ArraysSupport_mismatch_102 (by decide) (by decide) rfl (⟨by rw [xmm, if_pos ((eqTo_iff u y n2).mpr (fun j hj => k1 j (by omega)))], rfl, rfl⟩)
        · skip
          refine x_aload_n hC d_ArraysSupport_mismatch_77 rfl rfl ?_
          refine x_iload_n hC d_ArraysSupport_mismatch_78 rfl rfl ?_
          refine x_iload hC d_ArraysSupport_mismatch_79 rfl ?_
          refine x_iadd hC d_ArraysSupport_mismatch_81 (v := (nI (i))) (by rw [show (0 : Nat) = 0 from rfl, nI_add, Nat.zero_add]) ?_
          refine x_bald hC hw (j := i) ⟨rfl, by omega, by omega⟩ (x := nI (u (i))) rfl d_ArraysSupport_mismatch_82 ?_
          refine x_aload_n hC d_ArraysSupport_mismatch_83 rfl rfl ?_
          refine x_iload_n hC d_ArraysSupport_mismatch_84 rfl rfl ?_
          refine x_iload hC d_ArraysSupport_mismatch_85 rfl ?_
          refine x_iadd hC d_ArraysSupport_mismatch_87 (v := (nI (i))) (by rw [nI_add, Nat.zero_add]) ?_
          refine x_bald hC hy (j := i) ⟨rfl, by omega, by omega⟩ (x := nI (y (i))) rfl d_ArraysSupport_mismatch_88 ?_
          have hb1 := hu i (by omega)
          have hb2 := hy2 i (by omega)
          refine x_icmpN_eq hC d_ArraysSupport_mismatch_89 (tgt := 95) (by decide) (by omega) (by omega) (fun c_89 => ?_) (fun c_89 => ?_)
          · skip
            refine x_iinc hC d_ArraysSupport_mismatch_95 rfl (v := (nI (i + 1))) (x_incN 1) (Nat.le_of_ble_eq_true rfl) (L1 := [some (.ref w), some (.int (nI 0)), some (.ref y0), some (.int (nI 0)), some (.int (nI (n2))), some (.int (nI (i + 1))), none, none]) rfl ?_
            refine x_goto hC d_ArraysSupport_mismatch_98 (tgt := 70) (by decide) ?_
            exact ih_70  (i + 1) hw hy (by omega) (fun j hj => (Nat.lt_or_ge j i).elim (k1 j) (fun q => by rw [show j = i by omega]; exact c_89)) (by omega)
          · skip
            refine x_iload hC d_ArraysSupport_mismatch_92 rfl ?_
            exact hret _ _ _ _ _ _ _ d_ArraysSupport_mismatch_94 (by decide) (by decide) rfl (⟨by rw [xmm, if_neg (by rw [(fmis_at k1 c_89 n2 (by omega)).1]; decide), (fmis_at k1 c_89 n2 (by omega)).2], rfl, rfl⟩)
    exact loop_70 (n2 - 0 + 1)  (0) hw hy (by omega) (fun _ hj => absurd hj (by omega)) (by omega)
  · skip
    exact absurd c_7 (by omega)

theorem d_String_startsWith_StringI_0 : decode prog_33_method_75_code 0 = .ok (.iload_n 2, 1) := by decide +kernel
theorem d_String_startsWith_StringI_1 : decode prog_33_method_75_code 1 = .ok (.ifCond .lt 16, 3) := by decide +kernel
theorem d_String_startsWith_StringI_4 : decode prog_33_method_75_code 4 = .ok (.iload_n 2, 1) := by decide +kernel
theorem d_String_startsWith_StringI_5 : decode prog_33_method_75_code 5 = .ok (.aload_n 0, 1) := by decide +kernel
theorem d_String_startsWith_StringI_6 : decode prog_33_method_75_code 6 = .ok (.invokevirtual 505, 3) := by decide +kernel
theorem d_String_startsWith_StringI_9 : decode prog_33_method_75_code 9 = .ok (.aload_n 1, 1) := by decide +kernel
theorem d_String_startsWith_StringI_10 : decode prog_33_method_75_code 10 = .ok (.invokevirtual 505, 3) := by decide +kernel
theorem d_String_startsWith_StringI_13 : decode prog_33_method_75_code 13 = .ok (.isub, 1) := by decide +kernel
theorem d_String_startsWith_StringI_14 : decode prog_33_method_75_code 14 = .ok (.if_icmp .le 5, 3) := by decide +kernel
theorem d_String_startsWith_StringI_17 : decode prog_33_method_75_code 17 = .ok (.iconst 0, 1) := by decide +kernel
theorem d_String_startsWith_StringI_18 : decode prog_33_method_75_code 18 = .ok (.ireturn, 1) := by decide +kernel
theorem d_String_startsWith_StringI_19 : decode prog_33_method_75_code 19 = .ok (.aload_n 0, 1) := by decide +kernel
theorem d_String_startsWith_StringI_20 : decode prog_33_method_75_code 20 = .ok (.getfield 9, 3) := by decide +kernel
theorem d_String_startsWith_StringI_23 : decode prog_33_method_75_code 23 = .ok (.astore_n 3, 1) := by decide +kernel
theorem d_String_startsWith_StringI_24 : decode prog_33_method_75_code 24 = .ok (.aload_n 1, 1) := by decide +kernel
theorem d_String_startsWith_StringI_25 : decode prog_33_method_75_code 25 = .ok (.getfield 9, 3) := by decide +kernel
theorem d_String_startsWith_StringI_28 : decode prog_33_method_75_code 28 = .ok (.astore 4, 2) := by decide +kernel
theorem d_String_startsWith_StringI_30 : decode prog_33_method_75_code 30 = .ok (.iconst 0, 1) := by decide +kernel
theorem d_String_startsWith_StringI_31 : decode prog_33_method_75_code 31 = .ok (.istore 5, 2) := by decide +kernel
theorem d_String_startsWith_StringI_33 : decode prog_33_method_75_code 33 = .ok (.aload 4, 2) := by decide +kernel
theorem d_String_startsWith_StringI_35 : decode prog_33_method_75_code 35 = .ok (.arraylength, 1) := by decide +kernel
theorem d_String_startsWith_StringI_36 : decode prog_33_method_75_code 36 = .ok (.istore 6, 2) := by decide +kernel
theorem d_String_startsWith_StringI_38 : decode prog_33_method_75_code 38 = .ok (.aload_n 0, 1) := by decide +kernel
theorem d_String_startsWith_StringI_39 : decode prog_33_method_75_code 39 = .ok (.invokevirtual 335, 3) := by decide +kernel
theorem d_String_startsWith_StringI_42 : decode prog_33_method_75_code 42 = .ok (.istore 7, 2) := by decide +kernel
theorem d_String_startsWith_StringI_44 : decode prog_33_method_75_code 44 = .ok (.iload 7, 2) := by decide +kernel
theorem d_String_startsWith_StringI_46 : decode prog_33_method_75_code 46 = .ok (.aload_n 1, 1) := by decide +kernel
theorem d_String_startsWith_StringI_47 : decode prog_33_method_75_code 47 = .ok (.invokevirtual 335, 3) := by decide +kernel
theorem d_String_startsWith_StringI_50 : decode prog_33_method_75_code 50 = .ok (.if_icmp .ne 32, 3) := by decide +kernel
theorem d_String_startsWith_StringI_53 : decode prog_33_method_75_code 53 = .ok (.iload 7, 2) := by decide +kernel
theorem d_String_startsWith_StringI_55 : decode prog_33_method_75_code 55 = .ok (.iconst 1, 1) := by decide +kernel
theorem d_String_startsWith_StringI_56 : decode prog_33_method_75_code 56 = .ok (.if_icmp .ne 7, 3) := by decide +kernel
theorem d_String_startsWith_StringI_59 : decode prog_33_method_75_code 59 = .ok (.iload_n 2, 1) := by decide +kernel
theorem d_String_startsWith_StringI_60 : decode prog_33_method_75_code 60 = .ok (.iconst 1, 1) := by decide +kernel
theorem d_String_startsWith_StringI_61 : decode prog_33_method_75_code 61 = .ok (.ishl, 1) := by decide +kernel
theorem d_String_startsWith_StringI_62 : decode prog_33_method_75_code 62 = .ok (.istore_n 2, 1) := by decide +kernel
theorem d_String_startsWith_StringI_63 : decode prog_33_method_75_code 63 = .ok (.aload_n 3, 1) := by decide +kernel
theorem d_String_startsWith_StringI_64 : decode prog_33_method_75_code 64 = .ok (.iload_n 2, 1) := by decide +kernel
theorem d_String_startsWith_StringI_65 : decode prog_33_method_75_code 65 = .ok (.aload 4, 2) := by decide +kernel
theorem d_String_startsWith_StringI_67 : decode prog_33_method_75_code 67 = .ok (.iconst 0, 1) := by decide +kernel
theorem d_String_startsWith_StringI_68 : decode prog_33_method_75_code 68 = .ok (.iload 6, 2) := by decide +kernel
theorem d_String_startsWith_StringI_70 : decode prog_33_method_75_code 70 = .ok (.invokestatic 607, 3) := by decide +kernel
theorem d_String_startsWith_StringI_73 : decode prog_33_method_75_code 73 = .ok (.ifCond .ge 7, 3) := by decide +kernel
theorem d_String_startsWith_StringI_76 : decode prog_33_method_75_code 76 = .ok (.iconst 1, 1) := by decide +kernel
theorem d_String_startsWith_StringI_77 : decode prog_33_method_75_code 77 = .ok (.goto 4, 3) := by decide +kernel
theorem d_String_startsWith_StringI_80 : decode prog_33_method_75_code 80 = .ok (.iconst 0, 1) := by decide +kernel
theorem d_String_startsWith_StringI_81 : decode prog_33_method_75_code 81 = .ok (.ireturn, 1) := by decide +kernel
theorem d_String_startsWith_StringI_82 : decode prog_33_method_75_code 82 = .ok (.iload 7, 2) := by decide +kernel
theorem d_String_startsWith_StringI_84 : decode prog_33_method_75_code 84 = .ok (.ifCond .ne 5, 3) := by decide +kernel
theorem d_String_startsWith_StringI_87 : decode prog_33_method_75_code 87 = .ok (.iconst 0, 1) := by decide +kernel
theorem d_String_startsWith_StringI_88 : decode prog_33_method_75_code 88 = .ok (.ireturn, 1) := by decide +kernel
theorem d_String_startsWith_StringI_89 : decode prog_33_method_75_code 89 = .ok (.iload 5, 2) := by decide +kernel
theorem d_String_startsWith_StringI_91 : decode prog_33_method_75_code 91 = .ok (.iload 6, 2) := by decide +kernel
theorem d_String_startsWith_StringI_93 : decode prog_33_method_75_code 93 = .ok (.if_icmp .ge 28, 3) := by decide +kernel
theorem d_String_startsWith_StringI_96 : decode prog_33_method_75_code 96 = .ok (.aload_n 3, 1) := by decide +kernel
theorem d_String_startsWith_StringI_97 : decode prog_33_method_75_code 97 = .ok (.iload_n 2, 1) := by decide +kernel
theorem d_String_startsWith_StringI_98 : decode prog_33_method_75_code 98 = .ok (.iinc 2 1, 3) := by decide +kernel
theorem d_String_startsWith_StringI_101 : decode prog_33_method_75_code 101 = .ok (.invokestatic 360, 3) := by decide +kernel
theorem d_String_startsWith_StringI_104 : decode prog_33_method_75_code 104 = .ok (.aload 4, 2) := by decide +kernel
theorem d_String_startsWith_StringI_106 : decode prog_33_method_75_code 106 = .ok (.iload 5, 2) := by decide +kernel
theorem d_String_startsWith_StringI_108 : decode prog_33_method_75_code 108 = .ok (.iinc 5 1, 3) := by decide +kernel
theorem d_String_startsWith_StringI_111 : decode prog_33_method_75_code 111 = .ok (.baload, 1) := by decide +kernel
theorem d_String_startsWith_StringI_112 : decode prog_33_method_75_code 112 = .ok (.sipush 255, 3) := by decide +kernel
theorem d_String_startsWith_StringI_115 : decode prog_33_method_75_code 115 = .ok (.iand, 1) := by decide +kernel
theorem d_String_startsWith_StringI_116 : decode prog_33_method_75_code 116 = .ok (.if_icmp .eq (-27), 3) := by decide +kernel
theorem d_String_startsWith_StringI_119 : decode prog_33_method_75_code 119 = .ok (.iconst 0, 1) := by decide +kernel
theorem d_String_startsWith_StringI_120 : decode prog_33_method_75_code 120 = .ok (.ireturn, 1) := by decide +kernel
theorem d_String_startsWith_StringI_121 : decode prog_33_method_75_code 121 = .ok (.iconst 1, 1) := by decide +kernel
theorem d_String_startsWith_StringI_122 : decode prog_33_method_75_code 122 = .ok (.ireturn, 1) := by decide +kernel
set_option maxHeartbeats 4000000 in
set_option maxRecDepth 20000 in
theorem c_String_startsWith_StringI {P : xP} {F : xF} {z : Nat} {s : Nat} {w : Nat} {n : Nat} {u : Nat → Nat} {s2 : Nat} {y0 : Nat} {n2 : Nat} {y : Nat → Nat} {fo : Nat} (hs : F (s) = some (.inl (11, [.ref w, .int (nI 0), .int (nI 0), .int (nI 0)]))) (hw : F (w) = some (.inr (2, n, fun b9 => .int (nI (u b9))))) (hs2 : F (s2) = some (.inl (11, [.ref y0, .int (nI 0), .int (nI 0), .int (nI 0)]))) (hy : F (y0) = some (.inr (2, n2, fun b9 => .int (nI (y b9))))) (hJ : xJd P fo) (h1 : n ≤ 7 ∧ n2 ≤ 7) (hu : ∀ j, j < n → u j < 128) (hy2 : ∀ j, j < n2 → y j < 128) : xM P xy_String_startsWith_StringI [.ref s, .ref s2, .int (nI 0)] F (z) 0 0 (fun r9 F9 z9 => r9 = some (.int (xb (n2 ≤ n ∧ eqTo u y n2 = true))) ∧ F9 = F ∧ z9 = z) := by
  refine xM_i .boolean (by decide +kernel) (Nat.le_of_ble_eq_true rfl) (L0 := [some (.ref s), some (.ref s2), some (.int (nI 0)), none, none, none, none, none]) rfl rfl fun Θ hC hret => ?_
  refine x_iload_n hC d_String_startsWith_StringI_0 rfl rfl ?_
  refine x_ifN_lt hC d_String_startsWith_StringI_1 (tgt := 17) (by decide) (by omega) (fun c_1 => ?_) (fun c_1 => ?_)
  · skip
    exact c_1.elim
  · skip
    refine x_iload_n hC d_String_startsWith_StringI_4 rfl rfl ?_
    refine x_aload_n hC d_String_startsWith_StringI_5 rfl rfl ?_
    refine x_callV hC kv_String_505 (c_String_lengthJ (hs := hs) (hw := hw) (hJ := hJ) (hn := by omega) (fo := fo)) hs rfl rfl (by decide) rfl rfl rfl (Nat.le_of_ble_eq_true rfl) (by decide) d_String_startsWith_StringI_6 (fun r9 F9 z9 hp9 => ?_)
    obtain ⟨rfl, h9b, h9c⟩ := hp9
    rw [h9b, h9c]
    clear h9b h9c F9 z9
    refine x_aload_n hC d_String_startsWith_StringI_9 rfl rfl ?_
    refine x_callV hC kv_String_505 (c_String_lengthJ (hs := hs2) (hw := hy) (hJ := hJ) (hn := by omega) (fo := fo)) hs2 rfl rfl (by decide) rfl rfl rfl (Nat.le_of_ble_eq_true rfl) (by decide) d_String_startsWith_StringI_10 (fun r9 F9 z9 hp9 => ?_)
    obtain ⟨rfl, h9b, h9c⟩ := hp9
    rw [h9b, h9c]
    clear h9b h9c F9 z9
    refine x_isub hC d_String_startsWith_StringI_13 (v := (nI n - nI n2)) rfl ?_
    refine x_icmp_le hC d_String_startsWith_StringI_14 (tgt := 19) (by decide) (fun c_14 => ?_) (fun c_14 => ?_)
    · skip
      have c9 := (xt_sub_ge (by omega) (by omega)).mp c_14
      refine x_aload_n hC d_String_startsWith_StringI_19 rfl rfl ?_
      refine x_getf hC kf_String_9 hs rfl d_String_startsWith_StringI_20 ?_
      refine x_astore_n hC d_String_startsWith_StringI_23 rfl (Nat.le_of_ble_eq_true rfl) (L1 := [some (.ref s), some (.ref s2), some (.int (nI 0)), some (.ref w), none, none, none, none]) rfl ?_
      refine x_aload_n hC d_String_startsWith_StringI_24 rfl rfl ?_
      refine x_getf hC kf_String_9 hs2 rfl d_String_startsWith_StringI_25 ?_
      refine x_astore hC d_String_startsWith_StringI_28 (Nat.le_of_ble_eq_true rfl) (L1 := [some (.ref s), some (.ref s2), some (.int (nI 0)), some (.ref w), some (.ref y0), none, none, none]) rfl ?_
      refine x_iconst hC d_String_startsWith_StringI_30 (v := nI 0) (by decide) ?_
      refine x_istore hC d_String_startsWith_StringI_31 (Nat.le_of_ble_eq_true rfl) (L1 := [some (.ref s), some (.ref s2), some (.int (nI 0)), some (.ref w), some (.ref y0), some (.int (nI 0)), none, none]) rfl ?_
      refine x_aload hC d_String_startsWith_StringI_33 rfl ?_
      refine x_alen hC hy (by decide) rfl d_String_startsWith_StringI_35 ?_
      refine x_istore hC d_String_startsWith_StringI_36 (Nat.le_of_ble_eq_true rfl) (L1 := [some (.ref s), some (.ref s2), some (.int (nI 0)), some (.ref w), some (.ref y0), some (.int (nI 0)), some (.int (nI (n2))), none]) rfl ?_
      refine x_aload_n hC d_String_startsWith_StringI_38 rfl rfl ?_
      refine x_callV hC kv_String_335 (c_String_coderJ (hs := hs) (hJ := hJ) (fo := fo)) hs rfl rfl (by decide) rfl rfl rfl (Nat.le_of_ble_eq_true rfl) (by decide) d_String_startsWith_StringI_39 (fun r9 F9 z9 hp9 => ?_)
      obtain ⟨rfl, h9b, h9c⟩ := hp9
      rw [h9b, h9c]
      clear h9b h9c F9 z9
      refine x_istore hC d_String_startsWith_StringI_42 (Nat.le_of_ble_eq_true rfl) (L1 := [some (.ref s), some (.ref s2), some (.int (nI 0)), some (.ref w), some (.ref y0), some (.int (nI 0)), some (.int (nI (n2))), some (.int (nI 0))]) rfl ?_
      refine x_iload hC d_String_startsWith_StringI_44 rfl ?_
      refine x_aload_n hC d_String_startsWith_StringI_46 rfl rfl ?_
      refine x_callV hC kv_String_335 (c_String_coderJ (hs := hs2) (hJ := hJ) (fo := fo)) hs2 rfl rfl (by decide) rfl rfl rfl (Nat.le_of_ble_eq_true rfl) (by decide) d_String_startsWith_StringI_47 (fun r9 F9 z9 hp9 => ?_)
      obtain ⟨rfl, h9b, h9c⟩ := hp9
      rw [h9b, h9c]
      clear h9b h9c F9 z9
      refine x_icmpN_ne hC d_String_startsWith_StringI_50 (tgt := 82) (by decide) (by omega) (by omega) (fun c_50 => ?_) (fun c_50 => ?_)
      · skip
        exact absurd c_50 (by omega)
      · skip
        refine x_iload hC d_String_startsWith_StringI_53 rfl ?_
        refine x_iconst hC d_String_startsWith_StringI_55 (v := nI 1) (by decide) ?_
        refine x_icmpN_ne hC d_String_startsWith_StringI_56 (tgt := 63) (by decide) (by omega) (by omega) (fun c_56 => ?_) (fun c_56 => ?_)
        · skip
          refine x_aload_n hC d_String_startsWith_StringI_63 rfl rfl ?_
          refine x_iload_n hC d_String_startsWith_StringI_64 rfl rfl ?_
          refine x_aload hC d_String_startsWith_StringI_65 rfl ?_
          refine x_iconst hC d_String_startsWith_StringI_67 (v := nI 0) (by decide) ?_
          refine x_iload hC d_String_startsWith_StringI_68 rfl ?_
          refine x_callS hC ks_String_607 (c_ArraysSupport_mismatch (hw := hw) (hy := hy) (h1 := by omega) (hu := hu) (hy2 := hy2)) (by decide) rfl rfl rfl (Nat.le_of_ble_eq_true rfl) (by decide) d_String_startsWith_StringI_70 (fun r9 F9 z9 hp9 => ?_)
          obtain ⟨rfl, h9b, h9c⟩ := hp9
          rw [h9b, h9c]
          clear h9b h9c F9 z9
          refine x_if_ge hC d_String_startsWith_StringI_73 (tgt := 80) (by decide) (fun c_73 => ?_) (fun c_73 => ?_)
          · skip
            refine x_iconst hC d_String_startsWith_StringI_80 (v := nI 0) (by decide) ?_
            exact hret _ _ _ _ _ _ _ d_String_startsWith_StringI_81 (by decide) (by decide) rfl (⟨congrArg (fun q => some (Value.int q)) (xb_f0 (fun q => (xmm_ge (by omega)).mp c_73 q.2)), rfl, rfl⟩)
          · skip
            refine x_iconst hC d_String_startsWith_StringI_76 (v := nI 1) (by decide) ?_
            refine x_goto hC d_String_startsWith_StringI_77 (tgt := 81) (by decide) ?_
            exact hret _ _ _ _ _ _ _ d_String_startsWith_StringI_81 (by decide) (by decide) rfl (⟨congrArg (fun q => some (Value.int q)) (xb_t1 (⟨c9, Classical.byContradiction fun q => absurd ((xmm_ge (by omega)).mpr q) (by first | exact c_73 | exact Int32.not_le.mpr c_73)⟩)), rfl, rfl⟩)
        · skip
          exact absurd c_56 (by omega)
    · skip
      have c9 : ¬ n2 ≤ n := fun e => absurd ((xt_sub_ge (by omega) (by omega)).mpr e) (by first | exact c_14 | exact Int32.not_le.mpr c_14)
      refine x_iconst hC d_String_startsWith_StringI_17 (v := nI 0) (by decide) ?_
      exact hret _ _ _ _ _ _ _ d_String_startsWith_StringI_18 (by decide) (by decide) rfl (⟨congrArg (fun q => some (Value.int q)) (xb_f0 (fun q => c9 q.1)), rfl, rfl⟩)

theorem d_String_startsWith_String_0 : decode prog_33_method_76_code 0 = .ok (.aload_n 0, 1) := by decide +kernel
theorem d_String_startsWith_String_1 : decode prog_33_method_76_code 1 = .ok (.aload_n 1, 1) := by decide +kernel
theorem d_String_startsWith_String_2 : decode prog_33_method_76_code 2 = .ok (.iconst 0, 1) := by decide +kernel
theorem d_String_startsWith_String_3 : decode prog_33_method_76_code 3 = .ok (.invokevirtual 624, 3) := by decide +kernel
theorem d_String_startsWith_String_6 : decode prog_33_method_76_code 6 = .ok (.ireturn, 1) := by decide +kernel
set_option maxHeartbeats 4000000 in
set_option maxRecDepth 20000 in
theorem c_String_startsWith_String {P : xP} {F : xF} {z : Nat} {s : Nat} {w : Nat} {n : Nat} {u : Nat → Nat} {s2 : Nat} {y0 : Nat} {n2 : Nat} {y : Nat → Nat} {fo : Nat} (hs : F (s) = some (.inl (11, [.ref w, .int (nI 0), .int (nI 0), .int (nI 0)]))) (hw : F (w) = some (.inr (2, n, fun b9 => .int (nI (u b9))))) (hs2 : F (s2) = some (.inl (11, [.ref y0, .int (nI 0), .int (nI 0), .int (nI 0)]))) (hy : F (y0) = some (.inr (2, n2, fun b9 => .int (nI (y b9))))) (hJ : xJd P fo) (h1 : n ≤ 7 ∧ n2 ≤ 7) (hu : ∀ j, j < n → u j < 128) (hy2 : ∀ j, j < n2 → y j < 128) : xM P xy_String_startsWith_String [.ref s, .ref s2] F (z) 0 0 (fun r9 F9 z9 => r9 = some (.int (xb (n2 ≤ n ∧ eqTo u y n2 = true))) ∧ F9 = F ∧ z9 = z) := by
  refine xM_i .boolean (by decide +kernel) (Nat.le_of_ble_eq_true rfl) (L0 := [some (.ref s), some (.ref s2)]) rfl rfl fun Θ hC hret => ?_
  refine x_aload_n hC d_String_startsWith_String_0 rfl rfl ?_
  refine x_aload_n hC d_String_startsWith_String_1 rfl rfl ?_
  refine x_iconst hC d_String_startsWith_String_2 (v := nI 0) (by decide) ?_
  refine x_callV hC kv_String_624 (c_String_startsWith_StringI (hs := hs) (hw := hw) (hs2 := hs2) (hy := hy) (hJ := hJ) (h1 := h1) (hu := hu) (hy2 := hy2) (fo := fo)) hs rfl rfl (by decide) rfl rfl rfl (Nat.le_of_ble_eq_true rfl) (by decide) d_String_startsWith_String_3 (fun r9 F9 z9 hp9 => ?_)
  obtain ⟨rfl, h9b, h9c⟩ := hp9
  rw [h9b, h9c]
  clear h9b h9c F9 z9
  exact hret _ _ _ _ _ _ _ d_String_startsWith_String_6 (by decide) (by decide) xb_nar (⟨rfl, rfl, rfl⟩)

