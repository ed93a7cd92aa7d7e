/-! the law's own small methods -/
def ush3 (v : Int32) : Nat := (v.toUInt32 >>> 3).toNat
theorem ush3_lt (v : Int32) : ush3 v < 2 ^ 29 := by
  unfold ush3
  rw [UInt32.toNat_shiftRight, Nat.shiftRight_eq_div_pow]
  have := v.toUInt32.toNat_lt
  show v.toUInt32.toNat / 2 ^ 3 < 2 ^ 29
  omega
theorem ush3_eq (v : Int32) : (v.toUInt32 >>> ((nI 3).toUInt32 &&& Int32.toUInt32 31)).toInt32 = nI (ush3 v) := by
  rw [show (nI 3).toUInt32 &&& Int32.toUInt32 31 = 3 by decide]
  unfold ush3
  generalize v.toUInt32 >>> 3 = x
  show x.toInt32 = Int32.ofNat x.toNat
  apply Int32.toBitVec_inj.mp
  show x.toBitVec = BitVec.ofNat 32 x.toBitVec.toNat
  simp
def lcell (N : Nat) (xs : Nat → Int32) (k : Nat) : Int32 := if k < N then xs k else nI (7919 * k + 12)
def lsome (N : Nat) (xs : Nat → Int32) (k n : Nat) : Nat := ush3 (lcell N xs k) % n
theorem d_Law_cell_0 : decode method_2_code 0 = .ok (.iload_n 1, 1) := by decide +kernel
theorem d_Law_cell_1 : decode method_2_code 1 = .ok (.aload_n 0, 1) := by decide +kernel
theorem d_Law_cell_2 : decode method_2_code 2 = .ok (.arraylength, 1) := by decide +kernel
theorem d_Law_cell_3 : decode method_2_code 3 = .ok (.if_icmp .ge 9, 3) := by decide +kernel
theorem d_Law_cell_6 : decode method_2_code 6 = .ok (.aload_n 0, 1) := by decide +kernel
theorem d_Law_cell_7 : decode method_2_code 7 = .ok (.iload_n 1, 1) := by decide +kernel
theorem d_Law_cell_8 : decode method_2_code 8 = .ok (.iaload, 1) := by decide +kernel
theorem d_Law_cell_9 : decode method_2_code 9 = .ok (.goto 11, 3) := by decide +kernel
theorem d_Law_cell_12 : decode method_2_code 12 = .ok (.sipush 7919, 3) := by decide +kernel
theorem d_Law_cell_15 : decode method_2_code 15 = .ok (.iload_n 1, 1) := by decide +kernel
theorem d_Law_cell_16 : decode method_2_code 16 = .ok (.imul, 1) := by decide +kernel
theorem d_Law_cell_17 : decode method_2_code 17 = .ok (.bipush 12, 2) := by decide +kernel
theorem d_Law_cell_19 : decode method_2_code 19 = .ok (.iadd, 1) := by decide +kernel
theorem d_Law_cell_20 : decode method_2_code 20 = .ok (.ireturn, 1) := by decide +kernel
set_option maxHeartbeats 4000000 in
set_option maxRecDepth 20000 in
theorem c_Law_cell {P : xP} {F : xF} {z : Nat} {a : Nat} {N : Nat} {xs : Nat → Int32} {k : Nat}  (hS : xScr P a N xs) (hk : k ≤ 1000) : xM P xy_Law_cell [.ref a, .int (nI (k))] F (z) 0 0 (fun r9 F9 z9 => r9 = some (.int (lcell N xs k)) ∧ F9 = F ∧ z9 = z) := by
  refine xM_i .int rfl (Nat.le_of_ble_eq_true rfl) (L0 := [some (.ref a), some (.int (nI (k)))]) rfl rfl fun Θ hC hret => ?_
  have hN9 := hS.2.2
  refine x_iload_n hC d_Law_cell_0 rfl rfl ?_
  refine x_aload_n hC d_Law_cell_1 rfl rfl ?_
  refine x_slen hC (xScr_at hC hS) hS.2.1 d_Law_cell_2 ?_
  refine x_icmpN_ge hC d_Law_cell_3 (tgt := 12) (by decide) (by omega) (by omega) (fun c_3 => ?_) (fun c_3 => ?_)
  · skip
    refine x_sipush hC d_Law_cell_12 (v := nI 7919) (by decide) ?_
    refine x_iload_n hC d_Law_cell_15 rfl rfl ?_
    refine x_imul hC d_Law_cell_16 (v := (nI ((7919) * (k)))) (pk_mul _ _) ?_
    refine x_bipush hC d_Law_cell_17 (v := nI 12) (by decide) ?_
    refine x_iadd hC d_Law_cell_19 (v := (nI ((7919) * (k) + 12))) (x_addN (by omega)) ?_
    exact hret _ _ _ _ _ _ _ d_Law_cell_20 (by decide) (by decide) rfl (⟨congrArg (fun q => some (Value.int q)) (by unfold lcell; rw [if_neg (by omega)]), rfl, rfl⟩)
  · skip
    refine x_aload_n hC d_Law_cell_6 rfl rfl ?_
    refine x_iload_n hC d_Law_cell_7 rfl rfl ?_
    refine x_sld hC (xScr_at hC hS) hS.2.1 (j := k) ⟨rfl, by omega, by omega⟩ d_Law_cell_8 ?_
    refine x_goto hC d_Law_cell_9 (tgt := 20) (by decide) ?_
    exact hret _ _ _ _ _ _ _ d_Law_cell_20 (by decide) (by decide) rfl (⟨congrArg (fun q => some (Value.int q)) (by unfold lcell; rw [if_pos (by omega)]), rfl, rfl⟩)

theorem d_Law_some_0 : decode method_3_code 0 = .ok (.aload_n 0, 1) := by decide +kernel
theorem d_Law_some_1 : decode method_3_code 1 = .ok (.iload_n 1, 1) := by decide +kernel
theorem d_Law_some_2 : decode method_3_code 2 = .ok (.invokestatic 7, 3) := by decide +kernel
theorem d_Law_some_5 : decode method_3_code 5 = .ok (.iconst 3, 1) := by decide +kernel
theorem d_Law_some_6 : decode method_3_code 6 = .ok (.iushr, 1) := by decide +kernel
theorem d_Law_some_7 : decode method_3_code 7 = .ok (.iload_n 2, 1) := by decide +kernel
theorem d_Law_some_8 : decode method_3_code 8 = .ok (.irem, 1) := by decide +kernel
theorem d_Law_some_9 : decode method_3_code 9 = .ok (.ireturn, 1) := by decide +kernel
set_option maxHeartbeats 4000000 in
set_option maxRecDepth 20000 in
theorem c_Law_some {P : xP} {F : xF} {z : Nat} {a : Nat} {N : Nat} {xs : Nat → Int32} {k : Nat} {n : Nat}  (hS : xScr P a N xs) (hk : k ≤ 1000) (hn : 0 < n ∧ n ≤ 1000) : xM P xy_Law_some [.ref a, .int (nI (k)), .int (nI (n))] F (z) 0 0 (fun r9 F9 z9 => r9 = some (.int (nI (lsome N xs k n))) ∧ F9 = F ∧ z9 = z) := by
  refine xM_i .int rfl (Nat.le_of_ble_eq_true rfl) (L0 := [some (.ref a), some (.int (nI (k))), some (.int (nI (n)))]) rfl rfl fun Θ hC hret => ?_
  have hu9 := ush3_lt (lcell N xs k)
  refine x_aload_n hC d_Law_some_0 rfl rfl ?_
  refine x_iload_n hC d_Law_some_1 rfl rfl ?_
  refine x_callS hC ks_Law_7 (c_Law_cell (hS := hS) (hk := hk) (N := N) (xs := xs)) (by decide) rfl rfl rfl (Nat.le_of_ble_eq_true rfl) (by decide) d_Law_some_2 (fun r9 F9 z9 hp9 => ?_)
  obtain ⟨rfl, h9b, h9c⟩ := hp9
  rw [h9b, h9c]
  clear h9b h9c F9 z9
  refine x_iconst hC d_Law_some_5 (v := nI 3) (by decide) ?_
  refine x_iushr hC d_Law_some_6 (v := (nI (ush3 (lcell N xs k)))) (ush3_eq _) ?_
  refine x_iload_n hC d_Law_some_7 rfl rfl ?_
  refine x_irem hC d_Law_some_8 (x_ne0 (by omega) (by omega)) (v := (nI ((ush3 (lcell N xs k)) % (n)))) (pk_rem (by omega) (by omega) (by omega)) ?_
  exact hret _ _ _ _ _ _ _ d_Law_some_9 (by decide) (by decide) rfl (⟨rfl, rfl, rfl⟩)

theorem d_Law_symbol_0 : decode method_19_code 0 = .ok (.bipush 97, 2) := by decide +kernel
theorem d_Law_symbol_2 : decode method_19_code 2 = .ok (.iload_n 0, 1) := by decide +kernel
theorem d_Law_symbol_3 : decode method_19_code 3 = .ok (.bipush 8, 2) := by decide +kernel
theorem d_Law_symbol_5 : decode method_19_code 5 = .ok (.irem, 1) := by decide +kernel
theorem d_Law_symbol_6 : decode method_19_code 6 = .ok (.iadd, 1) := by decide +kernel
theorem d_Law_symbol_7 : decode method_19_code 7 = .ok (.i2c, 1) := by decide +kernel
theorem d_Law_symbol_8 : decode method_19_code 8 = .ok (.ireturn, 1) := by decide +kernel
set_option maxHeartbeats 4000000 in
set_option maxRecDepth 20000 in
theorem c_Law_symbol {P : xP} {F : xF} {z : Nat} {v : Nat}  (hv : v ≤ 100000) : xM P xy_Law_symbol [.int (nI (v))] F (z) 0 0 (fun r9 F9 z9 => r9 = some (.int (nI (97 + v % 8))) ∧ F9 = F ∧ z9 = z) := by
  refine xM_i .char rfl (Nat.le_of_ble_eq_true rfl) (L0 := [some (.int (nI (v)))]) rfl rfl fun Θ hC hret => ?_
  refine x_bipush hC d_Law_symbol_0 (v := nI 97) (by decide) ?_
  refine x_iload_n hC d_Law_symbol_2 rfl rfl ?_
  refine x_bipush hC d_Law_symbol_3 (v := nI 8) (by decide) ?_
  refine x_irem hC d_Law_symbol_5 (x_ne0 (by omega) (by omega)) (v := (nI ((v) % (8)))) (pk_rem (by omega) (by omega) (by omega)) ?_
  refine x_iadd hC d_Law_symbol_6 (v := (nI ((97) + ((v) % (8))))) (x_addN (by omega)) ?_
  refine x_i2c hC d_Law_symbol_7 (v := (nI ((97) + ((v) % (8))))) (x_i2cN (by omega)) ?_
  exact hret _ _ _ _ _ _ _ d_Law_symbol_8 (by decide) (by decide) (x_char _ (by omega)) (⟨rfl, rfl, rfl⟩)

theorem d_Law_isLine_0 : decode method_22_code 0 = .ok (.iload_n 1, 1) := by decide +kernel
theorem d_Law_isLine_1 : decode method_22_code 1 = .ok (.aload_n 2, 1) := by decide +kernel
theorem d_Law_isLine_2 : decode method_22_code 2 = .ok (.invokevirtual 119, 3) := by decide +kernel
theorem d_Law_isLine_5 : decode method_22_code 5 = .ok (.if_icmp .eq 5, 3) := by decide +kernel
theorem d_Law_isLine_8 : decode method_22_code 8 = .ok (.iconst 0, 1) := by decide +kernel
theorem d_Law_isLine_9 : decode method_22_code 9 = .ok (.ireturn, 1) := by decide +kernel
theorem d_Law_isLine_10 : decode method_22_code 10 = .ok (.iconst 0, 1) := by decide +kernel
theorem d_Law_isLine_11 : decode method_22_code 11 = .ok (.istore_n 3, 1) := by decide +kernel
theorem d_Law_isLine_12 : decode method_22_code 12 = .ok (.iload_n 3, 1) := by decide +kernel
theorem d_Law_isLine_13 : decode method_22_code 13 = .ok (.iload_n 1, 1) := by decide +kernel
theorem d_Law_isLine_14 : decode method_22_code 14 = .ok (.if_icmp .ge 24, 3) := by decide +kernel
theorem d_Law_isLine_17 : decode method_22_code 17 = .ok (.aload_n 0, 1) := by decide +kernel
theorem d_Law_isLine_18 : decode method_22_code 18 = .ok (.iload_n 3, 1) := by decide +kernel
theorem d_Law_isLine_19 : decode method_22_code 19 = .ok (.invokevirtual 124, 3) := by decide +kernel
theorem d_Law_isLine_22 : decode method_22_code 22 = .ok (.aload_n 2, 1) := by decide +kernel
theorem d_Law_isLine_23 : decode method_22_code 23 = .ok (.iload_n 3, 1) := by decide +kernel
theorem d_Law_isLine_24 : decode method_22_code 24 = .ok (.invokevirtual 127, 3) := by decide +kernel
theorem d_Law_isLine_27 : decode method_22_code 27 = .ok (.if_icmp .eq 5, 3) := by decide +kernel
theorem d_Law_isLine_30 : decode method_22_code 30 = .ok (.iconst 0, 1) := by decide +kernel
theorem d_Law_isLine_31 : decode method_22_code 31 = .ok (.ireturn, 1) := by decide +kernel
theorem d_Law_isLine_32 : decode method_22_code 32 = .ok (.iinc 3 1, 3) := by decide +kernel
theorem d_Law_isLine_35 : decode method_22_code 35 = .ok (.goto (-23), 3) := by decide +kernel
theorem d_Law_isLine_38 : decode method_22_code 38 = .ok (.iconst 1, 1) := by decide +kernel
theorem d_Law_isLine_39 : decode method_22_code 39 = .ok (.ireturn, 1) := by decide +kernel
set_option maxHeartbeats 4000000 in
set_option maxRecDepth 20000 in
theorem c_Law_isLine {P : xP} {F : xF} {z : Nat} {b : Nat} {cm : cmT} {M : mcS} {sz : Nat} {s : Nat} {l : List Nat} {fo : Nat} (hM : xMC F (cm) (b) (M)) (hs : xTs F (s) (l)) (hZx : xZx P) (hJ : xJd P fo) (h1 : M.2.2.2.2.1.1 = sz ∧ l.length = sz ∧ sz ≤ 32) (h2 : ∀ i, i < sz → M.2.2.2.2.1.2 i = l.getD i 0) : xM P xy_Law_isLine [.ref b, .int (nI (sz)), .ref s] F (z) 32 192 (fun r9 F9 z9 => r9 = some (.int (nI 1)) ∧ F9 = F ∧ z9 = z) := by
  refine xM_i .boolean rfl (Nat.le_of_ble_eq_true rfl) (L0 := [some (.ref b), some (.int (nI (sz))), some (.ref s), none]) rfl rfl fun Θ hC hret => ?_
  obtain ⟨u0, s0, -, -, hlt, -⟩ := id hs
  obtain ⟨b0, -⟩ := id hM
  refine x_iload_n hC d_Law_isLine_0 rfl rfl ?_
  refine x_aload_n hC d_Law_isLine_1 rfl rfl ?_
  refine x_callV hC kv_Law_119 (c_String_lengthL (hs := hs) (hJ := hJ) (fo := fo)) s0 rfl rfl (by decide) rfl rfl rfl (Nat.le_of_ble_eq_true rfl) (by decide) d_Law_isLine_2 (fun r9 F9 z9 hp9 => ?_)
  obtain ⟨rfl, h9b, h9c⟩ := hp9
  rw [h9b, h9c]
  clear h9b h9c F9 z9
  refine x_icmpN_eq hC d_Law_isLine_5 (tgt := 10) (by decide) (by omega) (by omega) (fun c_5 => ?_) (fun c_5 => ?_)
  · skip
    refine x_iconst hC d_Law_isLine_10 (v := nI 0) (by decide) ?_
    refine x_istore_n hC d_Law_isLine_11 rfl (Nat.le_of_ble_eq_true rfl) (L1 := [some (.ref b), some (.int (nI (sz))), some (.ref s), some (.int (nI 0))]) rfl ?_
    have loop_12 : ∀ (m9 : Nat) (i : Nat), (xMC F (cm) (b) (M)) → (xTs F (s) (l)) → (i ≤ sz) → (sz - i < m9) → xX P Θ 12 [some (.ref b), some (.int (nI (sz))), some (.ref s), some (.int (nI (i)))] [] F (z) i (6 * i) := by
      intro m9
      induction m9 with
      | zero => intros; omega
      | succ m9 ih_12 =>
        intro  i hM hs hi hm_12
        refine x_iload_n hC d_Law_isLine_12 rfl rfl ?_
        refine x_iload_n hC d_Law_isLine_13 rfl rfl ?_
        refine x_icmpN_ge hC d_Law_isLine_14 (tgt := 38) (by decide) (by omega) (by omega) (fun c_14 => ?_) (fun c_14 => ?_)
        · skip
          refine x_iconst hC d_Law_isLine_38 (v := nI 1) (by decide) ?_
          exact hret _ _ _ _ _ _ _ d_Law_isLine_39 (by omega) (by omega) rfl (⟨rfl, rfl, rfl⟩)
        · skip
          refine x_aload_n hC d_Law_isLine_17 rfl rfl ?_
          refine x_iload_n hC d_Law_isLine_18 rfl rfl ?_
          refine x_callV hC kv_Law_124 (c_MessageCoder_lineCharK (hM := hM) (hA := rfl) (hZx := hZx) (n0 := by omega) (A := M.1)) b0 rfl rfl (by decide) rfl rfl rfl (Nat.le_of_ble_eq_true rfl) ⟨by omega, by omega⟩ d_Law_isLine_19 (fun r9 F9 z9 hp9 => ?_)
          obtain ⟨rfl, h9b, h9c⟩ := hp9
          rw [h9b, h9c]
          clear h9b h9c F9 z9
          refine x_aload_n hC d_Law_isLine_22 rfl rfl ?_
          refine x_iload_n hC d_Law_isLine_23 rfl rfl ?_
          refine x_callV hC kv_Law_127 (c_String_charAtL (hs := hs) (hJ := hJ) (hi := by omega) (fo := fo)) s0 rfl rfl (by decide) rfl rfl rfl (Nat.le_of_ble_eq_true rfl) ⟨by omega, by omega⟩ d_Law_isLine_24 (fun r9 F9 z9 hp9 => ?_)
          obtain ⟨rfl, h9b, h9c⟩ := hp9
          rw [h9b, h9c]
          clear h9b h9c F9 z9
          have e9 := h2 i (by omega)
          have l9 := hlt i (by omega)
          refine x_icmpN_eq hC d_Law_isLine_27 (tgt := 32) (by decide) (by omega) (by omega) (fun c_27 => ?_) (fun c_27 => ?_)
          · skip
            refine x_iinc hC d_Law_isLine_32 rfl (v := (nI (i + 1))) (x_incN 1) (Nat.le_of_ble_eq_true rfl) (L1 := [some (.ref b), some (.int (nI (sz))), some (.ref s), some (.int (nI (i + 1)))]) rfl ?_
            refine x_goto hC d_Law_isLine_35 (tgt := 12) (by decide) ?_
            exact ih_12  (i + 1) hM hs (by omega) (by omega)
          · skip
            exact absurd c_27 (by omega)
    exact loop_12 (sz - 0 + 1)  (0) hM hs (by omega) (by omega)
  · skip
    exact absurd c_5 (by omega)

theorem d_Law_acts_0 : decode method_21_code 0 = .ok (.aload_n 0, 1) := by decide +kernel
theorem d_Law_acts_1 : decode method_21_code 1 = .ok (.invokevirtual 95, 3) := by decide +kernel
theorem d_Law_acts_4 : decode method_21_code 4 = .ok (.istore_n 3, 1) := by decide +kernel
theorem d_Law_acts_5 : decode method_21_code 5 = .ok (.aload_n 1, 1) := by decide +kernel
theorem d_Law_acts_6 : decode method_21_code 6 = .ok (.iload_n 2, 1) := by decide +kernel
theorem d_Law_acts_7 : decode method_21_code 7 = .ok (.iconst 1, 1) := by decide +kernel
theorem d_Law_acts_8 : decode method_21_code 8 = .ok (.iadd, 1) := by decide +kernel
theorem d_Law_acts_9 : decode method_21_code 9 = .ok (.bipush 64, 2) := by decide +kernel
theorem d_Law_acts_11 : decode method_21_code 11 = .ok (.invokestatic 78, 3) := by decide +kernel
theorem d_Law_acts_14 : decode method_21_code 14 = .ok (.istore 4, 2) := by decide +kernel
theorem d_Law_acts_16 : decode method_21_code 16 = .ok (.iload_n 3, 1) := by decide +kernel
theorem d_Law_acts_17 : decode method_21_code 17 = .ok (.ifCond .le 18, 3) := by decide +kernel
theorem d_Law_acts_20 : decode method_21_code 20 = .ok (.aload_n 0, 1) := by decide +kernel
theorem d_Law_acts_21 : decode method_21_code 21 = .ok (.aload_n 1, 1) := by decide +kernel
theorem d_Law_acts_22 : decode method_21_code 22 = .ok (.iload_n 2, 1) := by decide +kernel
theorem d_Law_acts_23 : decode method_21_code 23 = .ok (.iconst 2, 1) := by decide +kernel
theorem d_Law_acts_24 : decode method_21_code 24 = .ok (.iadd, 1) := by decide +kernel
theorem d_Law_acts_25 : decode method_21_code 25 = .ok (.iload_n 3, 1) := by decide +kernel
theorem d_Law_acts_26 : decode method_21_code 26 = .ok (.invokestatic 78, 3) := by decide +kernel
theorem d_Law_acts_29 : decode method_21_code 29 = .ok (.invokevirtual 55, 3) := by decide +kernel
theorem d_Law_acts_32 : decode method_21_code 32 = .ok (.goto 4, 3) := by decide +kernel
theorem d_Law_acts_35 : decode method_21_code 35 = .ok (.iconst 0, 1) := by decide +kernel
theorem d_Law_acts_36 : decode method_21_code 36 = .ok (.istore 5, 2) := by decide +kernel
theorem d_Law_acts_38 : decode method_21_code 38 = .ok (.aload_n 1, 1) := by decide +kernel
theorem d_Law_acts_39 : decode method_21_code 39 = .ok (.iload_n 2, 1) := by decide +kernel
theorem d_Law_acts_40 : decode method_21_code 40 = .ok (.bipush 15, 2) := by decide +kernel
theorem d_Law_acts_42 : decode method_21_code 42 = .ok (.invokestatic 78, 3) := by decide +kernel
theorem d_Law_acts_45 : decode method_21_code 45 = .ok (.tableswitch 232 0 13 #[71, 89, 89, 89, 89, 128, 128, 143, 165, 182, 193, 202, 202, 202], 71) := by decide +kernel
theorem d_Law_acts_116 : decode method_21_code 116 = .ok (.aload_n 0, 1) := by decide +kernel
theorem d_Law_acts_117 : decode method_21_code 117 = .ok (.iload 4, 2) := by decide +kernel
theorem d_Law_acts_119 : decode method_21_code 119 = .ok (.invokestatic 75, 3) := by decide +kernel
theorem d_Law_acts_122 : decode method_21_code 122 = .ok (.iconst 1, 1) := by decide +kernel
theorem d_Law_acts_123 : decode method_21_code 123 = .ok (.iload 4, 2) := by decide +kernel
theorem d_Law_acts_125 : decode method_21_code 125 = .ok (.iadd, 1) := by decide +kernel
theorem d_Law_acts_126 : decode method_21_code 126 = .ok (.invokestatic 82, 3) := by decide +kernel
theorem d_Law_acts_129 : decode method_21_code 129 = .ok (.istore 6, 2) := by decide +kernel
theorem d_Law_acts_131 : decode method_21_code 131 = .ok (.goto 163, 3) := by decide +kernel
theorem d_Law_acts_134 : decode method_21_code 134 = .ok (.iconst 0, 1) := by decide +kernel
theorem d_Law_acts_135 : decode method_21_code 135 = .ok (.istore 7, 2) := by decide +kernel
theorem d_Law_acts_137 : decode method_21_code 137 = .ok (.iload 7, 2) := by decide +kernel
theorem d_Law_acts_139 : decode method_21_code 139 = .ok (.iload 4, 2) := by decide +kernel
theorem d_Law_acts_141 : decode method_21_code 141 = .ok (.iconst 4, 1) := by decide +kernel
theorem d_Law_acts_142 : decode method_21_code 142 = .ok (.irem, 1) := by decide +kernel
theorem d_Law_acts_143 : decode method_21_code 143 = .ok (.if_icmp .gt 27, 3) := by decide +kernel
theorem d_Law_acts_146 : decode method_21_code 146 = .ok (.aload_n 0, 1) := by decide +kernel
theorem d_Law_acts_147 : decode method_21_code 147 = .ok (.iload 4, 2) := by decide +kernel
theorem d_Law_acts_149 : decode method_21_code 149 = .ok (.iconst 2, 1) := by decide +kernel
theorem d_Law_acts_150 : decode method_21_code 150 = .ok (.idiv, 1) := by decide +kernel
theorem d_Law_acts_151 : decode method_21_code 151 = .ok (.iconst 3, 1) := by decide +kernel
theorem d_Law_acts_152 : decode method_21_code 152 = .ok (.iload 7, 2) := by decide +kernel
theorem d_Law_acts_154 : decode method_21_code 154 = .ok (.imul, 1) := by decide +kernel
theorem d_Law_acts_155 : decode method_21_code 155 = .ok (.iadd, 1) := by decide +kernel
theorem d_Law_acts_156 : decode method_21_code 156 = .ok (.invokestatic 75, 3) := by decide +kernel
theorem d_Law_acts_159 : decode method_21_code 159 = .ok (.invokestatic 85, 3) := by decide +kernel
theorem d_Law_acts_162 : decode method_21_code 162 = .ok (.istore 6, 2) := by decide +kernel
theorem d_Law_acts_164 : decode method_21_code 164 = .ok (.iinc 7 1, 3) := by decide +kernel
theorem d_Law_acts_167 : decode method_21_code 167 = .ok (.goto (-30), 3) := by decide +kernel
theorem d_Law_acts_170 : decode method_21_code 170 = .ok (.goto 124, 3) := by decide +kernel
theorem d_Law_acts_173 : decode method_21_code 173 = .ok (.aload_n 0, 1) := by decide +kernel
theorem d_Law_acts_174 : decode method_21_code 174 = .ok (.iconst 1, 1) := by decide +kernel
theorem d_Law_acts_175 : decode method_21_code 175 = .ok (.iload 4, 2) := by decide +kernel
theorem d_Law_acts_177 : decode method_21_code 177 = .ok (.iconst 5, 1) := by decide +kernel
theorem d_Law_acts_178 : decode method_21_code 178 = .ok (.irem, 1) := by decide +kernel
theorem d_Law_acts_179 : decode method_21_code 179 = .ok (.iadd, 1) := by decide +kernel
theorem d_Law_acts_180 : decode method_21_code 180 = .ok (.invokestatic 88, 3) := by decide +kernel
theorem d_Law_acts_183 : decode method_21_code 183 = .ok (.istore 6, 2) := by decide +kernel
theorem d_Law_acts_185 : decode method_21_code 185 = .ok (.goto 109, 3) := by decide +kernel
theorem d_Law_acts_188 : decode method_21_code 188 = .ok (.iload 4, 2) := by decide +kernel
theorem d_Law_acts_190 : decode method_21_code 190 = .ok (.iconst 4, 1) := by decide +kernel
theorem d_Law_acts_191 : decode method_21_code 191 = .ok (.irem, 1) := by decide +kernel
theorem d_Law_acts_192 : decode method_21_code 192 = .ok (.ifCond .ne 12, 3) := by decide +kernel
theorem d_Law_acts_195 : decode method_21_code 195 = .ok (.aload_n 0, 1) := by decide +kernel
theorem d_Law_acts_196 : decode method_21_code 196 = .ok (.iload 5, 2) := by decide +kernel
theorem d_Law_acts_198 : decode method_21_code 198 = .ok (.invokestatic 98, 3) := by decide +kernel
theorem d_Law_acts_201 : decode method_21_code 201 = .ok (.goto 4, 3) := by decide +kernel
theorem d_Law_acts_204 : decode method_21_code 204 = .ok (.iconst 0, 1) := by decide +kernel
theorem d_Law_acts_205 : decode method_21_code 205 = .ok (.istore 6, 2) := by decide +kernel
theorem d_Law_acts_207 : decode method_21_code 207 = .ok (.goto 87, 3) := by decide +kernel
theorem d_Law_acts_210 : decode method_21_code 210 = .ok (.aload_n 0, 1) := by decide +kernel
theorem d_Law_acts_211 : decode method_21_code 211 = .ok (.iload 5, 2) := by decide +kernel
theorem d_Law_acts_213 : decode method_21_code 213 = .ok (.iconst 1, 1) := by decide +kernel
theorem d_Law_acts_214 : decode method_21_code 214 = .ok (.iload 4, 2) := by decide +kernel
theorem d_Law_acts_216 : decode method_21_code 216 = .ok (.iconst 5, 1) := by decide +kernel
theorem d_Law_acts_217 : decode method_21_code 217 = .ok (.irem, 1) := by decide +kernel
theorem d_Law_acts_218 : decode method_21_code 218 = .ok (.iadd, 1) := by decide +kernel
theorem d_Law_acts_219 : decode method_21_code 219 = .ok (.invokestatic 100, 3) := by decide +kernel
theorem d_Law_acts_222 : decode method_21_code 222 = .ok (.istore 6, 2) := by decide +kernel
theorem d_Law_acts_224 : decode method_21_code 224 = .ok (.goto 70, 3) := by decide +kernel
theorem d_Law_acts_227 : decode method_21_code 227 = .ok (.aload_n 0, 1) := by decide +kernel
theorem d_Law_acts_228 : decode method_21_code 228 = .ok (.iload 5, 2) := by decide +kernel
theorem d_Law_acts_230 : decode method_21_code 230 = .ok (.invokestatic 103, 3) := by decide +kernel
theorem d_Law_acts_233 : decode method_21_code 233 = .ok (.istore 6, 2) := by decide +kernel
theorem d_Law_acts_235 : decode method_21_code 235 = .ok (.goto 59, 3) := by decide +kernel
theorem d_Law_acts_238 : decode method_21_code 238 = .ok (.aload_n 0, 1) := by decide +kernel
theorem d_Law_acts_239 : decode method_21_code 239 = .ok (.invokestatic 105, 3) := by decide +kernel
theorem d_Law_acts_242 : decode method_21_code 242 = .ok (.istore 6, 2) := by decide +kernel
theorem d_Law_acts_244 : decode method_21_code 244 = .ok (.goto 50, 3) := by decide +kernel
theorem d_Law_acts_247 : decode method_21_code 247 = .ok (.aload_n 0, 1) := by decide +kernel
theorem d_Law_acts_248 : decode method_21_code 248 = .ok (.aload_n 0, 1) := by decide +kernel
theorem d_Law_acts_249 : decode method_21_code 249 = .ok (.invokevirtual 108, 3) := by decide +kernel
theorem d_Law_acts_252 : decode method_21_code 252 = .ok (.ifCond .eq 16, 3) := by decide +kernel
theorem d_Law_acts_255 : decode method_21_code 255 = .ok (.bipush 97, 2) := by decide +kernel
theorem d_Law_acts_257 : decode method_21_code 257 = .ok (.iload 4, 2) := by decide +kernel
theorem d_Law_acts_259 : decode method_21_code 259 = .ok (.imul, 1) := by decide +kernel
theorem d_Law_acts_260 : decode method_21_code 260 = .ok (.aload_n 0, 1) := by decide +kernel
theorem d_Law_acts_261 : decode method_21_code 261 = .ok (.invokevirtual 112, 3) := by decide +kernel
theorem d_Law_acts_264 : decode method_21_code 264 = .ok (.irem, 1) := by decide +kernel
theorem d_Law_acts_265 : decode method_21_code 265 = .ok (.goto 4, 3) := by decide +kernel
theorem d_Law_acts_268 : decode method_21_code 268 = .ok (.iconst 0, 1) := by decide +kernel
theorem d_Law_acts_269 : decode method_21_code 269 = .ok (.invokestatic 115, 3) := by decide +kernel
theorem d_Law_acts_272 : decode method_21_code 272 = .ok (.istore 6, 2) := by decide +kernel
theorem d_Law_acts_274 : decode method_21_code 274 = .ok (.goto 20, 3) := by decide +kernel
theorem d_Law_acts_277 : decode method_21_code 277 = .ok (.iload 4, 2) := by decide +kernel
theorem d_Law_acts_279 : decode method_21_code 279 = .ok (.iconst 3, 1) := by decide +kernel
theorem d_Law_acts_280 : decode method_21_code 280 = .ok (.irem, 1) := by decide +kernel
theorem d_Law_acts_281 : decode method_21_code 281 = .ok (.ifCond .ne 10, 3) := by decide +kernel
theorem d_Law_acts_284 : decode method_21_code 284 = .ok (.aload_n 0, 1) := by decide +kernel
theorem d_Law_acts_285 : decode method_21_code 285 = .ok (.invokestatic 117, 3) := by decide +kernel
theorem d_Law_acts_288 : decode method_21_code 288 = .ok (.goto 4, 3) := by decide +kernel
theorem d_Law_acts_291 : decode method_21_code 291 = .ok (.iconst 0, 1) := by decide +kernel
theorem d_Law_acts_292 : decode method_21_code 292 = .ok (.istore 6, 2) := by decide +kernel
theorem d_Law_acts_294 : decode method_21_code 294 = .ok (.return_, 1) := by decide +kernel
set_option maxHeartbeats 4000000 in
set_option maxRecDepth 20000 in
theorem c_Law_acts {P : xP} {F : xF} {z : Nat} {b : Nat} {cm : cmT} {sm : Nat} {M : mcS} {a : Nat} {N : Nat} {xs : Nat → Int32} {k : Nat} {q : Nat} (hM : xMC F (cm) (b) (M)) (hCM : xCM P cm) (hSM : xSM P sm) (hZx : xZx P) (hNx : xNx P) (hS : xScr P a N xs) (hB : pBd M q) (hq : q ≤ 900) (hk : k ≤ 900) : xM P xy_Law_acts [.ref b, .ref a, .int (nI (k))] F (z) 5 30 (fun r9 F9 z9 => ∃ M1 : mcS, ∃ zz : Nat, r9 = none ∧ z9 = zz ∧ xMC F9 (cm) (b) (M1) ∧ (pBd M1 (q + 4)) ∧ (z ≤ zz) ∧ (∀ a9 : Nat, (a9 < b ∨ b + 566 ≤ a9) → F9 a9 = F a9)) := by
  refine xM_v rfl (Nat.le_of_ble_eq_true rfl) (L0 := [some (.ref b), some (.ref a), some (.int (nI (k))), none, none, none, none, none]) rfl rfl fun Θ hC hin hret => ?_
  have hag : ∀ a9 : Nat, (a9 < b ∨ b + 566 ≤ a9) → F a9 = F a9 := fun a9 _ => rfl
  obtain ⟨b0, -⟩ := id hM
  refine x_aload_n hC d_Law_acts_0 rfl rfl ?_
  refine x_callV hC kv_Law_95 (c_MessageCoder_messageCountK (hM := hM) (hA := rfl) (A := M.1)) b0 rfl rfl (by decide) rfl rfl rfl (Nat.le_of_ble_eq_true rfl) (by decide) d_Law_acts_1 (fun r9 F9 z9 hp9 => ?_)
  obtain ⟨rfl, h9b, h9c⟩ := hp9
  rw [h9b, h9c]
  clear h9b h9c F9 z9
  obtain ⟨⟨i1, i2, i3, i4, i5⟩, iw, id2, im, io, ib, it⟩ := id hB.1
  refine x_istore_n hC d_Law_acts_4 rfl (Nat.le_of_ble_eq_true rfl) (L1 := [some (.ref b), some (.ref a), some (.int (nI (k))), some (.int (nI ((M.1).2.2.1.1))), none, none, none, none]) rfl ?_
  refine x_aload_n hC d_Law_acts_5 rfl rfl ?_
  refine x_iload_n hC d_Law_acts_6 rfl rfl ?_
  refine x_iconst hC d_Law_acts_7 (v := nI 1) (by decide) ?_
  refine x_iadd hC d_Law_acts_8 (v := (nI (k + 1))) (x_addN (by omega)) ?_
  refine x_bipush hC d_Law_acts_9 (v := nI 64) (by decide) ?_
  refine x_callS hC ks_Law_78 (c_Law_some (hS := hS) (hk := by omega) (hn := by omega) (N := N) (xs := xs)) (by decide) rfl rfl rfl (Nat.le_of_ble_eq_true rfl) (by decide) d_Law_acts_11 (fun r9 F9 z9 hp9 => ?_)
  obtain ⟨rfl, h9b, h9c⟩ := hp9
  rw [h9b, h9c]
  clear h9b h9c F9 z9
  obtain ⟨v, hv⟩ : ∃ c9 : Nat, c9 = lsome N xs (k + 1) 64 := ⟨_, rfl⟩
  rw [← hv]
  have hv9 : v < 64 := by rw [hv]; exact Nat.mod_lt _ (by decide)
  refine x_istore hC d_Law_acts_14 (Nat.le_of_ble_eq_true rfl) (L1 := [some (.ref b), some (.ref a), some (.int (nI (k))), some (.int (nI ((M.1).2.2.1.1))), some (.int (nI (v))), none, none, none]) rfl ?_
  have join_36 : ∀ idv : Nat, idv < 1000 → xX P Θ 36 [some (.ref b), some (.ref a), some (.int (nI (k))), some (.int (nI ((M.1).2.2.1.1))), some (.int (nI (v))), none, none, none] [.int (nI (idv))] F (z) 1 6 := by
    intro idv hid
    refine x_istore hC d_Law_acts_36 (Nat.le_of_ble_eq_true rfl) (L1 := [some (.ref b), some (.ref a), some (.int (nI (k))), some (.int (nI ((M.1).2.2.1.1))), some (.int (nI (v))), some (.int (nI (idv))), none, none]) rfl ?_
    refine x_aload_n hC d_Law_acts_38 rfl rfl ?_
    refine x_iload_n hC d_Law_acts_39 rfl rfl ?_
    refine x_bipush hC d_Law_acts_40 (v := nI 15) (by decide) ?_
    refine x_callS hC ks_Law_78 (c_Law_some (hS := hS) (hk := by omega) (hn := by omega) (N := N) (xs := xs)) (by decide) rfl rfl rfl (Nat.le_of_ble_eq_true rfl) (by decide) d_Law_acts_42 (fun r9 F9 z9 hp9 => ?_)
    obtain ⟨rfl, h9b, h9c⟩ := hp9
    rw [h9b, h9c]
    clear h9b h9c F9 z9
    obtain ⟨r, hr⟩ : ∃ c9 : Nat, c9 = lsome N xs k 15 := ⟨_, rfl⟩
    rw [← hr]
    have hr9 : r < 15 := by rw [hr]; exact Nat.mod_lt _ (by decide)
    by_cases k_45_0 : (nI (r)) = nI 0
    · skip
      refine x_top (v := nI 0) k_45_0 ?_
      refine x_tableIn hC d_Law_acts_45 (by decide +kernel) (by decide +kernel) (off := 71) (by decide +kernel) (tgt := 116) (by decide) ?_
      refine x_aload_n hC d_Law_acts_116 rfl rfl ?_
      refine x_iload hC d_Law_acts_117 rfl ?_
      refine x_callS hC ks_Law_75 (c_Law_symbol (hv := by omega)) (by decide) rfl rfl rfl (Nat.le_of_ble_eq_true rfl) (by decide) d_Law_acts_119 (fun r9 F9 z9 hp9 => ?_)
      obtain ⟨rfl, h9b, h9c⟩ := hp9
      rw [h9b, h9c]
      clear h9b h9c F9 z9
      refine x_iconst hC d_Law_acts_122 (v := nI 1) (by decide) ?_
      refine x_iload hC d_Law_acts_123 rfl ?_
      refine x_iadd hC d_Law_acts_125 (v := (nI (1 + v))) (x_addN (by omega)) ?_
      refine x_callW hC kw_Law_82 (c_Law_setWeight (hM := hM) (hCM := hCM) (hSM := hSM) (hZx := hZx) (hpp0 := by have := hB.2.1; omega) (hun0 := by have := hB.2.2.1; omega) (hc0 := by omega) (hNx := hNx) (sm := sm)) (by decide) rfl rfl rfl (Nat.le_of_ble_eq_true rfl) (by decide) d_Law_acts_126 (fun r9 F9 z9 hp9 => ?_)
      obtain ⟨v9_126, zz_126, rfl, h9c, j0, pw_126, hag9⟩ := hp9
      rw [h9c]
      clear h9c z9
      generalize F9 = F1 at *
      have hM : xMC F1 (cm) (b) ((chgM M (aWt M.1 (97 + v % 8) (nI (1 + v))))) := j0
      have hag : ∀ a9 : Nat, (a9 < b ∨ b + 566 ≤ a9) → F1 a9 = F a9 := fun a9 q0 => (hag9 a9 (by omega)).trans (hag a9 q0)
      have hg_126 := hag9
      clear hag9
      refine x_istore hC d_Law_acts_129 (Nat.le_of_ble_eq_true rfl) (L1 := [some (.ref b), some (.ref a), some (.int (nI (k))), some (.int (nI ((M.1).2.2.1.1))), some (.int (nI (v))), some (.int (nI (idv))), some (.int v9_126), none]) rfl ?_
      refine x_goto hC d_Law_acts_131 (tgt := 294) (by decide) ?_
      exact hret _ _ _ _ _ _ d_Law_acts_294 (by decide) (by decide) (⟨_, _, rfl, rfl, hM, pBd_up (pBd_chg hB (pOk_Wt hB.1 _ _)) (by omega), by omega, hag⟩)
    · skip
      by_cases k_45_1 : (nI (r)) = nI 1
      · skip
        refine x_top (v := nI 1) k_45_1 ?_
        refine x_tableIn hC d_Law_acts_45 (by decide +kernel) (by decide +kernel) (off := 89) (by decide +kernel) (tgt := 134) (by decide) ?_
        refine x_iconst hC d_Law_acts_134 (v := nI 0) (by decide) ?_
        refine x_istore hC d_Law_acts_135 (Nat.le_of_ble_eq_true rfl) (L1 := [some (.ref b), some (.ref a), some (.int (nI (k))), some (.int (nI ((M.1).2.2.1.1))), some (.int (nI (v))), some (.int (nI (idv))), none, some (.int (nI 0))]) rfl ?_
        have loop_137 : ∀ (m9 : Nat) (Fh137 : xF) (j : Nat) (M2 : mcS) (z2 : Nat), (xMC Fh137 (cm) (b) (M2)) → (∀ a9 : Nat, (a9 < b ∨ b + 566 ≤ a9) → Fh137 a9 = F a9) → (j ≤ 4) → (pBd M2 (q + j)) → (z ≤ z2) → (4 - j < m9) → xX P Θ 137 [some (.ref b), some (.ref a), some (.int (nI (k))), some (.int (nI ((M.1).2.2.1.1))), some (.int (nI (v))), some (.int (nI (idv))), none, some (.int (nI (j)))] [] Fh137 (z2) (1 + j) (6 + 6 * j) := by
          intro m9
          induction m9 with
          | zero => intros; omega
          | succ m9 ih_137 =>
            intro Fh137 j M2 z2 hM hag hj hB2 hz2 hm_137
            refine x_iload hC d_Law_acts_137 rfl ?_
            refine x_iload hC d_Law_acts_139 rfl ?_
            refine x_iconst hC d_Law_acts_141 (v := nI 4) (by decide) ?_
            refine x_irem hC d_Law_acts_142 (x_ne0 (by omega) (by omega)) (v := (nI ((v) % (4)))) (pk_rem (by omega) (by omega) (by omega)) ?_
            refine x_icmpN_gt hC d_Law_acts_143 (tgt := 170) (by decide) (by omega) (by omega) (fun c_143 => ?_) (fun c_143 => ?_)
            · skip
              refine x_goto hC d_Law_acts_170 (tgt := 294) (by decide) ?_
              exact hret _ _ _ _ _ _ d_Law_acts_294 (by omega) (by omega) (⟨_, _, rfl, rfl, hM, pBd_up hB2 (by omega), by omega, hag⟩)
            · skip
              refine x_aload_n hC d_Law_acts_146 rfl rfl ?_
              refine x_iload hC d_Law_acts_147 rfl ?_
              refine x_iconst hC d_Law_acts_149 (v := nI 2) (by decide) ?_
              refine x_idiv hC d_Law_acts_150 (x_ne0 (by omega) (by omega)) (v := (nI ((v) / (2)))) (pk_div (by omega) (by omega) (by omega)) ?_
              refine x_iconst hC d_Law_acts_151 (v := nI 3) (by decide) ?_
              refine x_iload hC d_Law_acts_152 rfl ?_
              refine x_imul hC d_Law_acts_154 (v := (nI ((3) * (j)))) (pk_mul _ _) ?_
              refine x_iadd hC d_Law_acts_155 (v := (nI (((v) / (2)) + ((3) * (j))))) (x_addN (by omega)) ?_
              refine x_callS hC ks_Law_75 (c_Law_symbol (hv := by omega)) (by decide) rfl rfl rfl (Nat.le_of_ble_eq_true rfl) ⟨by omega, by omega⟩ d_Law_acts_156 (fun r9 F9 z9 hp9 => ?_)
              obtain ⟨rfl, h9b, h9c⟩ := hp9
              rw [h9b, h9c]
              clear h9b h9c F9 z9
              refine x_callW hC kw_Law_85 (c_Law_addSymbol (hM := hM) (hCM := hCM) (hSM := hSM) (hZx := hZx) (hpp0 := by have := hB2.2.1; omega) (hun0 := by have := hB2.2.2.1; omega) (hc0 := by omega) (hNx := hNx) (sm := sm)) (by decide) rfl rfl rfl (Nat.le_of_ble_eq_true rfl) ⟨by omega, by omega⟩ d_Law_acts_159 (fun r9 F9 z9 hp9 => ?_)
              obtain ⟨v9_159, zz_159, rfl, h9c, j0, pw_159, hag9⟩ := hp9
              rw [h9c]
              clear h9c z9
              generalize F9 = F2 at *
              have hM : xMC F2 (cm) (b) ((chgM M2 (aDr M2.1 (97 + (((v) / (2)) + ((3) * (j))) % 8)))) := j0
              have hag : ∀ a9 : Nat, (a9 < b ∨ b + 566 ≤ a9) → F2 a9 = F a9 := fun a9 q0 => (hag9 a9 (by omega)).trans (hag a9 q0)
              have hg_159 := hag9
              clear hag9
              refine x_istore hC d_Law_acts_162 (Nat.le_of_ble_eq_true rfl) (L1 := [some (.ref b), some (.ref a), some (.int (nI (k))), some (.int (nI ((M.1).2.2.1.1))), some (.int (nI (v))), some (.int (nI (idv))), some (.int v9_159), some (.int (nI (j)))]) rfl ?_
              refine x_iinc hC d_Law_acts_164 rfl (v := (nI (j + 1))) (x_incN 1) (Nat.le_of_ble_eq_true rfl) (L1 := [some (.ref b), some (.ref a), some (.int (nI (k))), some (.int (nI ((M.1).2.2.1.1))), some (.int (nI (v))), some (.int (nI (idv))), some (.int v9_159), some (.int (nI (j + 1)))]) rfl ?_
              refine x_goto hC d_Law_acts_167 (tgt := 137) (by decide) ?_
              refine x_forget (L1 := [some (.ref b), some (.ref a), some (.int (nI (k))), some (.int (nI ((M.1).2.2.1.1))), some (.int (nI (v))), some (.int (nI (idv))), none, some (.int (nI (j + 1)))]) ⟨Or.inr rfl, ⟨Or.inr rfl, ⟨Or.inr rfl, ⟨Or.inr rfl, ⟨Or.inr rfl, ⟨Or.inr rfl, ⟨Or.inl rfl, ⟨Or.inr rfl, trivial⟩⟩⟩⟩⟩⟩⟩⟩ ?_
              exact ih_137 F2 (j + 1) ((chgM M2 (aDr M2.1 (97 + (((v) / (2)) + ((3) * (j))) % 8)))) (zz_159) hM hag (by omega) (pBd_chg hB2 (pOk_Dr hB2.1 _)) (by omega) (by omega)
        exact loop_137 (4 - 0 + 1) F (0) (M) (z) hM hag (by omega) (hB) (Nat.le_refl z) (by omega)
      · skip
        by_cases k_45_2 : (nI (r)) = nI 2
        · skip
          refine x_top (v := nI 2) k_45_2 ?_
          refine x_tableIn hC d_Law_acts_45 (by decide +kernel) (by decide +kernel) (off := 89) (by decide +kernel) (tgt := 134) (by decide) ?_
          refine x_iconst hC d_Law_acts_134 (v := nI 0) (by decide) ?_
          refine x_istore hC d_Law_acts_135 (Nat.le_of_ble_eq_true rfl) (L1 := [some (.ref b), some (.ref a), some (.int (nI (k))), some (.int (nI ((M.1).2.2.1.1))), some (.int (nI (v))), some (.int (nI (idv))), none, some (.int (nI 0))]) rfl ?_
          have loop_137 : ∀ (m9 : Nat) (Fh137 : xF) (j : Nat) (M2 : mcS) (z2 : Nat), (xMC Fh137 (cm) (b) (M2)) → (∀ a9 : Nat, (a9 < b ∨ b + 566 ≤ a9) → Fh137 a9 = F a9) → (j ≤ 4) → (pBd M2 (q + j)) → (z ≤ z2) → (4 - j < m9) → xX P Θ 137 [some (.ref b), some (.ref a), some (.int (nI (k))), some (.int (nI ((M.1).2.2.1.1))), some (.int (nI (v))), some (.int (nI (idv))), none, some (.int (nI (j)))] [] Fh137 (z2) (1 + j) (6 + 6 * j) := by
            intro m9
            induction m9 with
            | zero => intros; omega
            | succ m9 ih_137 =>
              intro Fh137 j M2 z2 hM hag hj hB2 hz2 hm_137
              refine x_iload hC d_Law_acts_137 rfl ?_
              refine x_iload hC d_Law_acts_139 rfl ?_
              refine x_iconst hC d_Law_acts_141 (v := nI 4) (by decide) ?_
              refine x_irem hC d_Law_acts_142 (x_ne0 (by omega) (by omega)) (v := (nI ((v) % (4)))) (pk_rem (by omega) (by omega) (by omega)) ?_
              refine x_icmpN_gt hC d_Law_acts_143 (tgt := 170) (by decide) (by omega) (by omega) (fun c_143 => ?_) (fun c_143 => ?_)
              · skip
                refine x_goto hC d_Law_acts_170 (tgt := 294) (by decide) ?_
                exact hret _ _ _ _ _ _ d_Law_acts_294 (by omega) (by omega) (⟨_, _, rfl, rfl, hM, pBd_up hB2 (by omega), by omega, hag⟩)
              · skip
                refine x_aload_n hC d_Law_acts_146 rfl rfl ?_
                refine x_iload hC d_Law_acts_147 rfl ?_
                refine x_iconst hC d_Law_acts_149 (v := nI 2) (by decide) ?_
                refine x_idiv hC d_Law_acts_150 (x_ne0 (by omega) (by omega)) (v := (nI ((v) / (2)))) (pk_div (by omega) (by omega) (by omega)) ?_
                refine x_iconst hC d_Law_acts_151 (v := nI 3) (by decide) ?_
                refine x_iload hC d_Law_acts_152 rfl ?_
                refine x_imul hC d_Law_acts_154 (v := (nI ((3) * (j)))) (pk_mul _ _) ?_
                refine x_iadd hC d_Law_acts_155 (v := (nI (((v) / (2)) + ((3) * (j))))) (x_addN (by omega)) ?_
                refine x_callS hC ks_Law_75 (c_Law_symbol (hv := by omega)) (by decide) rfl rfl rfl (Nat.le_of_ble_eq_true rfl) ⟨by omega, by omega⟩ d_Law_acts_156 (fun r9 F9 z9 hp9 => ?_)
                obtain ⟨rfl, h9b, h9c⟩ := hp9
                rw [h9b, h9c]
                clear h9b h9c F9 z9
                refine x_callW hC kw_Law_85 (c_Law_addSymbol (hM := hM) (hCM := hCM) (hSM := hSM) (hZx := hZx) (hpp0 := by have := hB2.2.1; omega) (hun0 := by have := hB2.2.2.1; omega) (hc0 := by omega) (hNx := hNx) (sm := sm)) (by decide) rfl rfl rfl (Nat.le_of_ble_eq_true rfl) ⟨by omega, by omega⟩ d_Law_acts_159 (fun r9 F9 z9 hp9 => ?_)
                obtain ⟨v9_159, zz_159, rfl, h9c, j0, pw_159, hag9⟩ := hp9
                rw [h9c]
                clear h9c z9
                generalize F9 = F3 at *
                have hM : xMC F3 (cm) (b) ((chgM M2 (aDr M2.1 (97 + (((v) / (2)) + ((3) * (j))) % 8)))) := j0
                have hag : ∀ a9 : Nat, (a9 < b ∨ b + 566 ≤ a9) → F3 a9 = F a9 := fun a9 q0 => (hag9 a9 (by omega)).trans (hag a9 q0)
                have hg_159 := hag9
                clear hag9
                refine x_istore hC d_Law_acts_162 (Nat.le_of_ble_eq_true rfl) (L1 := [some (.ref b), some (.ref a), some (.int (nI (k))), some (.int (nI ((M.1).2.2.1.1))), some (.int (nI (v))), some (.int (nI (idv))), some (.int v9_159), some (.int (nI (j)))]) rfl ?_
                refine x_iinc hC d_Law_acts_164 rfl (v := (nI (j + 1))) (x_incN 1) (Nat.le_of_ble_eq_true rfl) (L1 := [some (.ref b), some (.ref a), some (.int (nI (k))), some (.int (nI ((M.1).2.2.1.1))), some (.int (nI (v))), some (.int (nI (idv))), some (.int v9_159), some (.int (nI (j + 1)))]) rfl ?_
                refine x_goto hC d_Law_acts_167 (tgt := 137) (by decide) ?_
                refine x_forget (L1 := [some (.ref b), some (.ref a), some (.int (nI (k))), some (.int (nI ((M.1).2.2.1.1))), some (.int (nI (v))), some (.int (nI (idv))), none, some (.int (nI (j + 1)))]) ⟨Or.inr rfl, ⟨Or.inr rfl, ⟨Or.inr rfl, ⟨Or.inr rfl, ⟨Or.inr rfl, ⟨Or.inr rfl, ⟨Or.inl rfl, ⟨Or.inr rfl, trivial⟩⟩⟩⟩⟩⟩⟩⟩ ?_
                exact ih_137 F3 (j + 1) ((chgM M2 (aDr M2.1 (97 + (((v) / (2)) + ((3) * (j))) % 8)))) (zz_159) hM hag (by omega) (pBd_chg hB2 (pOk_Dr hB2.1 _)) (by omega) (by omega)
          exact loop_137 (4 - 0 + 1) F (0) (M) (z) hM hag (by omega) (hB) (Nat.le_refl z) (by omega)
        · skip
          by_cases k_45_3 : (nI (r)) = nI 3
          · skip
            refine x_top (v := nI 3) k_45_3 ?_
            refine x_tableIn hC d_Law_acts_45 (by decide +kernel) (by decide +kernel) (off := 89) (by decide +kernel) (tgt := 134) (by decide) ?_
            refine x_iconst hC d_Law_acts_134 (v := nI 0) (by decide) ?_
            refine x_istore hC d_Law_acts_135 (Nat.le_of_ble_eq_true rfl) (L1 := [some (.ref b), some (.ref a), some (.int (nI (k))), some (.int (nI ((M.1).2.2.1.1))), some (.int (nI (v))), some (.int (nI (idv))), none, some (.int (nI 0))]) rfl ?_
            have loop_137 : ∀ (m9 : Nat) (Fh137 : xF) (j : Nat) (M2 : mcS) (z2 : Nat), (xMC Fh137 (cm) (b) (M2)) → (∀ a9 : Nat, (a9 < b ∨ b + 566 ≤ a9) → Fh137 a9 = F a9) → (j ≤ 4) → (pBd M2 (q + j)) → (z ≤ z2) → (4 - j < m9) → xX P Θ 137 [some (.ref b), some (.ref a), some (.int (nI (k))), some (.int (nI ((M.1).2.2.1.1))), some (.int (nI (v))), some (.int (nI (idv))), none, some (.int (nI (j)))] [] Fh137 (z2) (1 + j) (6 + 6 * j) := by
              intro m9
              induction m9 with
              | zero => intros; omega
              | succ m9 ih_137 =>
                intro Fh137 j M2 z2 hM hag hj hB2 hz2 hm_137
                refine x_iload hC d_Law_acts_137 rfl ?_
                refine x_iload hC d_Law_acts_139 rfl ?_
                refine x_iconst hC d_Law_acts_141 (v := nI 4) (by decide) ?_
                refine x_irem hC d_Law_acts_142 (x_ne0 (by omega) (by omega)) (v := (nI ((v) % (4)))) (pk_rem (by omega) (by omega) (by omega)) ?_
                refine x_icmpN_gt hC d_Law_acts_143 (tgt := 170) (by decide) (by omega) (by omega) (fun c_143 => ?_) (fun c_143 => ?_)
                · skip
                  refine x_goto hC d_Law_acts_170 (tgt := 294) (by decide) ?_
                  exact hret _ _ _ _ _ _ d_Law_acts_294 (by omega) (by omega) (⟨_, _, rfl, rfl, hM, pBd_up hB2 (by omega), by omega, hag⟩)
                · skip
                  refine x_aload_n hC d_Law_acts_146 rfl rfl ?_
                  refine x_iload hC d_Law_acts_147 rfl ?_
                  refine x_iconst hC d_Law_acts_149 (v := nI 2) (by decide) ?_
                  refine x_idiv hC d_Law_acts_150 (x_ne0 (by omega) (by omega)) (v := (nI ((v) / (2)))) (pk_div (by omega) (by omega) (by omega)) ?_
                  refine x_iconst hC d_Law_acts_151 (v := nI 3) (by decide) ?_
                  refine x_iload hC d_Law_acts_152 rfl ?_
                  refine x_imul hC d_Law_acts_154 (v := (nI ((3) * (j)))) (pk_mul _ _) ?_
                  refine x_iadd hC d_Law_acts_155 (v := (nI (((v) / (2)) + ((3) * (j))))) (x_addN (by omega)) ?_
                  refine x_callS hC ks_Law_75 (c_Law_symbol (hv := by omega)) (by decide) rfl rfl rfl (Nat.le_of_ble_eq_true rfl) ⟨by omega, by omega⟩ d_Law_acts_156 (fun r9 F9 z9 hp9 => ?_)
                  obtain ⟨rfl, h9b, h9c⟩ := hp9
                  rw [h9b, h9c]
                  clear h9b h9c F9 z9
                  refine x_callW hC kw_Law_85 (c_Law_addSymbol (hM := hM) (hCM := hCM) (hSM := hSM) (hZx := hZx) (hpp0 := by have := hB2.2.1; omega) (hun0 := by have := hB2.2.2.1; omega) (hc0 := by omega) (hNx := hNx) (sm := sm)) (by decide) rfl rfl rfl (Nat.le_of_ble_eq_true rfl) ⟨by omega, by omega⟩ d_Law_acts_159 (fun r9 F9 z9 hp9 => ?_)
                  obtain ⟨v9_159, zz_159, rfl, h9c, j0, pw_159, hag9⟩ := hp9
                  rw [h9c]
                  clear h9c z9
                  generalize F9 = F4 at *
                  have hM : xMC F4 (cm) (b) ((chgM M2 (aDr M2.1 (97 + (((v) / (2)) + ((3) * (j))) % 8)))) := j0
                  have hag : ∀ a9 : Nat, (a9 < b ∨ b + 566 ≤ a9) → F4 a9 = F a9 := fun a9 q0 => (hag9 a9 (by omega)).trans (hag a9 q0)
                  have hg_159 := hag9
                  clear hag9
                  refine x_istore hC d_Law_acts_162 (Nat.le_of_ble_eq_true rfl) (L1 := [some (.ref b), some (.ref a), some (.int (nI (k))), some (.int (nI ((M.1).2.2.1.1))), some (.int (nI (v))), some (.int (nI (idv))), some (.int v9_159), some (.int (nI (j)))]) rfl ?_
                  refine x_iinc hC d_Law_acts_164 rfl (v := (nI (j + 1))) (x_incN 1) (Nat.le_of_ble_eq_true rfl) (L1 := [some (.ref b), some (.ref a), some (.int (nI (k))), some (.int (nI ((M.1).2.2.1.1))), some (.int (nI (v))), some (.int (nI (idv))), some (.int v9_159), some (.int (nI (j + 1)))]) rfl ?_
                  refine x_goto hC d_Law_acts_167 (tgt := 137) (by decide) ?_
                  refine x_forget (L1 := [some (.ref b), some (.ref a), some (.int (nI (k))), some (.int (nI ((M.1).2.2.1.1))), some (.int (nI (v))), some (.int (nI (idv))), none, some (.int (nI (j + 1)))]) ⟨Or.inr rfl, ⟨Or.inr rfl, ⟨Or.inr rfl, ⟨Or.inr rfl, ⟨Or.inr rfl, ⟨Or.inr rfl, ⟨Or.inl rfl, ⟨Or.inr rfl, trivial⟩⟩⟩⟩⟩⟩⟩⟩ ?_
                  exact ih_137 F4 (j + 1) ((chgM M2 (aDr M2.1 (97 + (((v) / (2)) + ((3) * (j))) % 8)))) (zz_159) hM hag (by omega) (pBd_chg hB2 (pOk_Dr hB2.1 _)) (by omega) (by omega)
            exact loop_137 (4 - 0 + 1) F (0) (M) (z) hM hag (by omega) (hB) (Nat.le_refl z) (by omega)
          · skip
            by_cases k_45_4 : (nI (r)) = nI 4
            · skip
              refine x_top (v := nI 4) k_45_4 ?_
              refine x_tableIn hC d_Law_acts_45 (by decide +kernel) (by decide +kernel) (off := 89) (by decide +kernel) (tgt := 134) (by decide) ?_
              refine x_iconst hC d_Law_acts_134 (v := nI 0) (by decide) ?_
              refine x_istore hC d_Law_acts_135 (Nat.le_of_ble_eq_true rfl) (L1 := [some (.ref b), some (.ref a), some (.int (nI (k))), some (.int (nI ((M.1).2.2.1.1))), some (.int (nI (v))), some (.int (nI (idv))), none, some (.int (nI 0))]) rfl ?_
              have loop_137 : ∀ (m9 : Nat) (Fh137 : xF) (j : Nat) (M2 : mcS) (z2 : Nat), (xMC Fh137 (cm) (b) (M2)) → (∀ a9 : Nat, (a9 < b ∨ b + 566 ≤ a9) → Fh137 a9 = F a9) → (j ≤ 4) → (pBd M2 (q + j)) → (z ≤ z2) → (4 - j < m9) → xX P Θ 137 [some (.ref b), some (.ref a), some (.int (nI (k))), some (.int (nI ((M.1).2.2.1.1))), some (.int (nI (v))), some (.int (nI (idv))), none, some (.int (nI (j)))] [] Fh137 (z2) (1 + j) (6 + 6 * j) := by
                intro m9
                induction m9 with
                | zero => intros; omega
                | succ m9 ih_137 =>
                  intro Fh137 j M2 z2 hM hag hj hB2 hz2 hm_137
                  refine x_iload hC d_Law_acts_137 rfl ?_
                  refine x_iload hC d_Law_acts_139 rfl ?_
                  refine x_iconst hC d_Law_acts_141 (v := nI 4) (by decide) ?_
                  refine x_irem hC d_Law_acts_142 (x_ne0 (by omega) (by omega)) (v := (nI ((v) % (4)))) (pk_rem (by omega) (by omega) (by omega)) ?_
                  refine x_icmpN_gt hC d_Law_acts_143 (tgt := 170) (by decide) (by omega) (by omega) (fun c_143 => ?_) (fun c_143 => ?_)
                  · skip
                    refine x_goto hC d_Law_acts_170 (tgt := 294) (by decide) ?_
                    exact hret _ _ _ _ _ _ d_Law_acts_294 (by omega) (by omega) (⟨_, _, rfl, rfl, hM, pBd_up hB2 (by omega), by omega, hag⟩)
                  · skip
                    refine x_aload_n hC d_Law_acts_146 rfl rfl ?_
                    refine x_iload hC d_Law_acts_147 rfl ?_
                    refine x_iconst hC d_Law_acts_149 (v := nI 2) (by decide) ?_
                    refine x_idiv hC d_Law_acts_150 (x_ne0 (by omega) (by omega)) (v := (nI ((v) / (2)))) (pk_div (by omega) (by omega) (by omega)) ?_
                    refine x_iconst hC d_Law_acts_151 (v := nI 3) (by decide) ?_
                    refine x_iload hC d_Law_acts_152 rfl ?_
                    refine x_imul hC d_Law_acts_154 (v := (nI ((3) * (j)))) (pk_mul _ _) ?_
                    refine x_iadd hC d_Law_acts_155 (v := (nI (((v) / (2)) + ((3) * (j))))) (x_addN (by omega)) ?_
                    refine x_callS hC ks_Law_75 (c_Law_symbol (hv := by omega)) (by decide) rfl rfl rfl (Nat.le_of_ble_eq_true rfl) ⟨by omega, by omega⟩ d_Law_acts_156 (fun r9 F9 z9 hp9 => ?_)
                    obtain ⟨rfl, h9b, h9c⟩ := hp9
                    rw [h9b, h9c]
                    clear h9b h9c F9 z9
                    refine x_callW hC kw_Law_85 (c_Law_addSymbol (hM := hM) (hCM := hCM) (hSM := hSM) (hZx := hZx) (hpp0 := by have := hB2.2.1; omega) (hun0 := by have := hB2.2.2.1; omega) (hc0 := by omega) (hNx := hNx) (sm := sm)) (by decide) rfl rfl rfl (Nat.le_of_ble_eq_true rfl) ⟨by omega, by omega⟩ d_Law_acts_159 (fun r9 F9 z9 hp9 => ?_)
                    obtain ⟨v9_159, zz_159, rfl, h9c, j0, pw_159, hag9⟩ := hp9
                    rw [h9c]
                    clear h9c z9
                    generalize F9 = F5 at *
                    have hM : xMC F5 (cm) (b) ((chgM M2 (aDr M2.1 (97 + (((v) / (2)) + ((3) * (j))) % 8)))) := j0
                    have hag : ∀ a9 : Nat, (a9 < b ∨ b + 566 ≤ a9) → F5 a9 = F a9 := fun a9 q0 => (hag9 a9 (by omega)).trans (hag a9 q0)
                    have hg_159 := hag9
                    clear hag9
                    refine x_istore hC d_Law_acts_162 (Nat.le_of_ble_eq_true rfl) (L1 := [some (.ref b), some (.ref a), some (.int (nI (k))), some (.int (nI ((M.1).2.2.1.1))), some (.int (nI (v))), some (.int (nI (idv))), some (.int v9_159), some (.int (nI (j)))]) rfl ?_
                    refine x_iinc hC d_Law_acts_164 rfl (v := (nI (j + 1))) (x_incN 1) (Nat.le_of_ble_eq_true rfl) (L1 := [some (.ref b), some (.ref a), some (.int (nI (k))), some (.int (nI ((M.1).2.2.1.1))), some (.int (nI (v))), some (.int (nI (idv))), some (.int v9_159), some (.int (nI (j + 1)))]) rfl ?_
                    refine x_goto hC d_Law_acts_167 (tgt := 137) (by decide) ?_
                    refine x_forget (L1 := [some (.ref b), some (.ref a), some (.int (nI (k))), some (.int (nI ((M.1).2.2.1.1))), some (.int (nI (v))), some (.int (nI (idv))), none, some (.int (nI (j + 1)))]) ⟨Or.inr rfl, ⟨Or.inr rfl, ⟨Or.inr rfl, ⟨Or.inr rfl, ⟨Or.inr rfl, ⟨Or.inr rfl, ⟨Or.inl rfl, ⟨Or.inr rfl, trivial⟩⟩⟩⟩⟩⟩⟩⟩ ?_
                    exact ih_137 F5 (j + 1) ((chgM M2 (aDr M2.1 (97 + (((v) / (2)) + ((3) * (j))) % 8)))) (zz_159) hM hag (by omega) (pBd_chg hB2 (pOk_Dr hB2.1 _)) (by omega) (by omega)
              exact loop_137 (4 - 0 + 1) F (0) (M) (z) hM hag (by omega) (hB) (Nat.le_refl z) (by omega)
            · skip
              by_cases k_45_5 : (nI (r)) = nI 5
              · skip
                refine x_top (v := nI 5) k_45_5 ?_
                refine x_tableIn hC d_Law_acts_45 (by decide +kernel) (by decide +kernel) (off := 128) (by decide +kernel) (tgt := 173) (by decide) ?_
                refine x_aload_n hC d_Law_acts_173 rfl rfl ?_
                refine x_iconst hC d_Law_acts_174 (v := nI 1) (by decide) ?_
                refine x_iload hC d_Law_acts_175 rfl ?_
                refine x_iconst hC d_Law_acts_177 (v := nI 5) (by decide) ?_
                refine x_irem hC d_Law_acts_178 (x_ne0 (by omega) (by omega)) (v := (nI ((v) % (5)))) (pk_rem (by omega) (by omega) (by omega)) ?_
                refine x_iadd hC d_Law_acts_179 (v := (nI ((1) + ((v) % (5))))) (x_addN (by omega)) ?_
                refine x_callW hC kw_Law_88 (c_Law_post (hM := hM) (hCM := hCM) (hSM := hSM) (hZx := hZx) (hpp0 := by have := hB.2.1; omega) (hun0 := by have := hB.2.2.1; omega) (hnx := by have := hB.2.2.2.1; omega) (hNx := hNx) (sm := sm)) (by decide) rfl rfl rfl (Nat.le_of_ble_eq_true rfl) (by decide) d_Law_acts_180 (fun r9 F9 z9 hp9 => ?_)
                obtain ⟨v9_180, zz_180, rfl, h9c, j0, pw_180, hag9⟩ := hp9
                rw [h9c]
                clear h9c z9
                generalize F9 = F6 at *
                have hM : xMC F6 (cm) (b) ((chgM M (aPo M.1 (nI ((1) + ((v) % (5))))))) := j0
                have hag : ∀ a9 : Nat, (a9 < b ∨ b + 566 ≤ a9) → F6 a9 = F a9 := fun a9 q0 => (hag9 a9 (by omega)).trans (hag a9 q0)
                have hg_180 := hag9
                clear hag9
                refine x_istore hC d_Law_acts_183 (Nat.le_of_ble_eq_true rfl) (L1 := [some (.ref b), some (.ref a), some (.int (nI (k))), some (.int (nI ((M.1).2.2.1.1))), some (.int (nI (v))), some (.int (nI (idv))), some (.int v9_180), none]) rfl ?_
                refine x_goto hC d_Law_acts_185 (tgt := 294) (by decide) ?_
                exact hret _ _ _ _ _ _ d_Law_acts_294 (by decide) (by decide) (⟨_, _, rfl, rfl, hM, pBd_up (pBd_chg hB (pOk_Po hB.1 _)) (by omega), by omega, hag⟩)
              · skip
                by_cases k_45_6 : (nI (r)) = nI 6
                · skip
                  refine x_top (v := nI 6) k_45_6 ?_
                  refine x_tableIn hC d_Law_acts_45 (by decide +kernel) (by decide +kernel) (off := 128) (by decide +kernel) (tgt := 173) (by decide) ?_
                  refine x_aload_n hC d_Law_acts_173 rfl rfl ?_
                  refine x_iconst hC d_Law_acts_174 (v := nI 1) (by decide) ?_
                  refine x_iload hC d_Law_acts_175 rfl ?_
                  refine x_iconst hC d_Law_acts_177 (v := nI 5) (by decide) ?_
                  refine x_irem hC d_Law_acts_178 (x_ne0 (by omega) (by omega)) (v := (nI ((v) % (5)))) (pk_rem (by omega) (by omega) (by omega)) ?_
                  refine x_iadd hC d_Law_acts_179 (v := (nI ((1) + ((v) % (5))))) (x_addN (by omega)) ?_
                  refine x_callW hC kw_Law_88 (c_Law_post (hM := hM) (hCM := hCM) (hSM := hSM) (hZx := hZx) (hpp0 := by have := hB.2.1; omega) (hun0 := by have := hB.2.2.1; omega) (hnx := by have := hB.2.2.2.1; omega) (hNx := hNx) (sm := sm)) (by decide) rfl rfl rfl (Nat.le_of_ble_eq_true rfl) (by decide) d_Law_acts_180 (fun r9 F9 z9 hp9 => ?_)
                  obtain ⟨v9_180, zz_180, rfl, h9c, j0, pw_180, hag9⟩ := hp9
                  rw [h9c]
                  clear h9c z9
                  generalize F9 = F7 at *
                  have hM : xMC F7 (cm) (b) ((chgM M (aPo M.1 (nI ((1) + ((v) % (5))))))) := j0
                  have hag : ∀ a9 : Nat, (a9 < b ∨ b + 566 ≤ a9) → F7 a9 = F a9 := fun a9 q0 => (hag9 a9 (by omega)).trans (hag a9 q0)
                  have hg_180 := hag9
                  clear hag9
                  refine x_istore hC d_Law_acts_183 (Nat.le_of_ble_eq_true rfl) (L1 := [some (.ref b), some (.ref a), some (.int (nI (k))), some (.int (nI ((M.1).2.2.1.1))), some (.int (nI (v))), some (.int (nI (idv))), some (.int v9_180), none]) rfl ?_
                  refine x_goto hC d_Law_acts_185 (tgt := 294) (by decide) ?_
                  exact hret _ _ _ _ _ _ d_Law_acts_294 (by decide) (by decide) (⟨_, _, rfl, rfl, hM, pBd_up (pBd_chg hB (pOk_Po hB.1 _)) (by omega), by omega, hag⟩)
                · skip
                  by_cases k_45_7 : (nI (r)) = nI 7
                  · skip
                    refine x_top (v := nI 7) k_45_7 ?_
                    refine x_tableIn hC d_Law_acts_45 (by decide +kernel) (by decide +kernel) (off := 143) (by decide +kernel) (tgt := 188) (by decide) ?_
                    refine x_iload hC d_Law_acts_188 rfl ?_
                    refine x_iconst hC d_Law_acts_190 (v := nI 4) (by decide) ?_
                    refine x_irem hC d_Law_acts_191 (x_ne0 (by omega) (by omega)) (v := (nI ((v) % (4)))) (pk_rem (by omega) (by omega) (by omega)) ?_
                    refine x_ifN_ne hC d_Law_acts_192 (tgt := 204) (by decide) (by omega) (fun c_192 => ?_) (fun c_192 => ?_)
                    · skip
                      refine x_iconst hC d_Law_acts_204 (v := nI 0) (by decide) ?_
                      refine x_istore hC d_Law_acts_205 (Nat.le_of_ble_eq_true rfl) (L1 := [some (.ref b), some (.ref a), some (.int (nI (k))), some (.int (nI ((M.1).2.2.1.1))), some (.int (nI (v))), some (.int (nI (idv))), some (.int (nI 0)), none]) rfl ?_
                      refine x_goto hC d_Law_acts_207 (tgt := 294) (by decide) ?_
                      exact hret _ _ _ _ _ _ d_Law_acts_294 (by decide) (by decide) (⟨_, _, rfl, rfl, hM, pBd_up hB (by omega), by omega, hag⟩)
                    · skip
                      refine x_aload_n hC d_Law_acts_195 rfl rfl ?_
                      refine x_iload hC d_Law_acts_196 rfl ?_
                      refine x_callW hC kw_Law_98 (c_Law_drop (hM := hM) (hCM := hCM) (hSM := hSM) (hZx := hZx) (hpp0 := by have := hB.2.1; omega) (hun0 := by have := hB.2.2.1; omega) (hNx := hNx) (sm := sm)) (by decide) rfl rfl rfl (Nat.le_of_ble_eq_true rfl) (by decide) d_Law_acts_198 (fun r9 F9 z9 hp9 => ?_)
                      obtain ⟨v9_198, zz_198, rfl, h9c, j0, pw_198, hag9⟩ := hp9
                      rw [h9c]
                      clear h9c z9
                      generalize F9 = F8 at *
                      have hM : xMC F8 (cm) (b) ((chgM M (aDi M.1 (nI (idv))))) := j0
                      have hag : ∀ a9 : Nat, (a9 < b ∨ b + 566 ≤ a9) → F8 a9 = F a9 := fun a9 q0 => (hag9 a9 (by omega)).trans (hag a9 q0)
                      have hg_198 := hag9
                      clear hag9
                      refine x_goto hC d_Law_acts_201 (tgt := 205) (by decide) ?_
                      refine x_istore hC d_Law_acts_205 (Nat.le_of_ble_eq_true rfl) (L1 := [some (.ref b), some (.ref a), some (.int (nI (k))), some (.int (nI ((M.1).2.2.1.1))), some (.int (nI (v))), some (.int (nI (idv))), some (.int v9_198), none]) rfl ?_
                      refine x_goto hC d_Law_acts_207 (tgt := 294) (by decide) ?_
                      exact hret _ _ _ _ _ _ d_Law_acts_294 (by decide) (by decide) (⟨_, _, rfl, rfl, hM, pBd_up (pBd_chg hB (pOk_Di hB.1 _)) (by omega), by omega, hag⟩)
                  · skip
                    by_cases k_45_8 : (nI (r)) = nI 8
                    · skip
                      refine x_top (v := nI 8) k_45_8 ?_
                      refine x_tableIn hC d_Law_acts_45 (by decide +kernel) (by decide +kernel) (off := 165) (by decide +kernel) (tgt := 210) (by decide) ?_
                      refine x_aload_n hC d_Law_acts_210 rfl rfl ?_
                      refine x_iload hC d_Law_acts_211 rfl ?_
                      refine x_iconst hC d_Law_acts_213 (v := nI 1) (by decide) ?_
                      refine x_iload hC d_Law_acts_214 rfl ?_
                      refine x_iconst hC d_Law_acts_216 (v := nI 5) (by decide) ?_
                      refine x_irem hC d_Law_acts_217 (x_ne0 (by omega) (by omega)) (v := (nI ((v) % (5)))) (pk_rem (by omega) (by omega) (by omega)) ?_
                      refine x_iadd hC d_Law_acts_218 (v := (nI ((1) + ((v) % (5))))) (x_addN (by omega)) ?_
                      refine x_callW hC kw_Law_100 (c_Law_setPriority (hM := hM) (hCM := hCM) (hSM := hSM) (hZx := hZx) (hpp0 := by have := hB.2.1; omega) (hun0 := by have := hB.2.2.1; omega) (hNx := hNx) (sm := sm)) (by decide) rfl rfl rfl (Nat.le_of_ble_eq_true rfl) (by decide) d_Law_acts_219 (fun r9 F9 z9 hp9 => ?_)
                      obtain ⟨v9_219, zz_219, rfl, h9c, j0, pw_219, hag9⟩ := hp9
                      rw [h9c]
                      clear h9c z9
                      generalize F9 = F9 at *
                      have hM : xMC F9 (cm) (b) ((chgM M (aHu M.1 (nI (idv)) (nI ((1) + ((v) % (5))))))) := j0
                      have hag : ∀ a9 : Nat, (a9 < b ∨ b + 566 ≤ a9) → F9 a9 = F a9 := fun a9 q0 => (hag9 a9 (by omega)).trans (hag a9 q0)
                      have hg_219 := hag9
                      clear hag9
                      refine x_istore hC d_Law_acts_222 (Nat.le_of_ble_eq_true rfl) (L1 := [some (.ref b), some (.ref a), some (.int (nI (k))), some (.int (nI ((M.1).2.2.1.1))), some (.int (nI (v))), some (.int (nI (idv))), some (.int v9_219), none]) rfl ?_
                      refine x_goto hC d_Law_acts_224 (tgt := 294) (by decide) ?_
                      exact hret _ _ _ _ _ _ d_Law_acts_294 (by decide) (by decide) (⟨_, _, rfl, rfl, hM, pBd_up (pBd_chg hB (pOk_Hu hB.1 _ _)) (by omega), by omega, hag⟩)
                    · skip
                      by_cases k_45_9 : (nI (r)) = nI 9
                      · skip
                        refine x_top (v := nI 9) k_45_9 ?_
                        refine x_tableIn hC d_Law_acts_45 (by decide +kernel) (by decide +kernel) (off := 182) (by decide +kernel) (tgt := 227) (by decide) ?_
                        refine x_aload_n hC d_Law_acts_227 rfl rfl ?_
                        refine x_iload hC d_Law_acts_228 rfl ?_
                        refine x_callW hC kw_Law_103 (c_Law_learn (hM := hM) (hCM := hCM) (hSM := hSM) (hZx := hZx) (hpp0 := by have := hB.2.1; omega) (hun0 := by have := hB.2.2.1; omega) (hNx := hNx) (sm := sm)) (by decide) rfl rfl rfl (Nat.le_of_ble_eq_true rfl) (by decide) d_Law_acts_230 (fun r9 F9 z9 hp9 => ?_)
                        obtain ⟨v9_230, zz_230, rfl, h9c, j0, pw_230, hag9⟩ := hp9
                        rw [h9c]
                        clear h9c z9
                        generalize F9 = F10 at *
                        have hM : xMC F10 (cm) (b) ((chgM M (aLe M.1 (nI (idv))))) := j0
                        have hag : ∀ a9 : Nat, (a9 < b ∨ b + 566 ≤ a9) → F10 a9 = F a9 := fun a9 q0 => (hag9 a9 (by omega)).trans (hag a9 q0)
                        have hg_230 := hag9
                        clear hag9
                        refine x_istore hC d_Law_acts_233 (Nat.le_of_ble_eq_true rfl) (L1 := [some (.ref b), some (.ref a), some (.int (nI (k))), some (.int (nI ((M.1).2.2.1.1))), some (.int (nI (v))), some (.int (nI (idv))), some (.int v9_230), none]) rfl ?_
                        refine x_goto hC d_Law_acts_235 (tgt := 294) (by decide) ?_
                        exact hret _ _ _ _ _ _ d_Law_acts_294 (by decide) (by decide) (⟨_, _, rfl, rfl, hM, pBd_up (pBd_chg hB (pOk_Le hB.1 _)) (by omega), by omega, hag⟩)
                      · skip
                        by_cases k_45_10 : (nI (r)) = nI 10
                        · skip
                          refine x_top (v := nI 10) k_45_10 ?_
                          refine x_tableIn hC d_Law_acts_45 (by decide +kernel) (by decide +kernel) (off := 193) (by decide +kernel) (tgt := 238) (by decide) ?_
                          refine x_aload_n hC d_Law_acts_238 rfl rfl ?_
                          refine x_callW hC kw_Law_105 (c_Law_send (hM := hM) (hCM := hCM) (hSM := hSM) (hZx := hZx) (hpp0 := by have := hB.2.1; omega) (hun0 := by have := hB.2.2.1; omega) (hNx := hNx) (sm := sm)) (by decide) rfl rfl rfl (Nat.le_of_ble_eq_true rfl) (by decide) d_Law_acts_239 (fun r9 F9 z9 hp9 => ?_)
                          obtain ⟨v9_239, zz_239, rfl, h9c, j0, pw_239, hag9⟩ := hp9
                          rw [h9c]
                          clear h9c z9
                          generalize F9 = F11 at *
                          have hM : xMC F11 (cm) (b) ((chgM M (aSe M.1))) := j0
                          have hag : ∀ a9 : Nat, (a9 < b ∨ b + 566 ≤ a9) → F11 a9 = F a9 := fun a9 q0 => (hag9 a9 (by omega)).trans (hag a9 q0)
                          have hg_239 := hag9
                          clear hag9
                          refine x_istore hC d_Law_acts_242 (Nat.le_of_ble_eq_true rfl) (L1 := [some (.ref b), some (.ref a), some (.int (nI (k))), some (.int (nI ((M.1).2.2.1.1))), some (.int (nI (v))), some (.int (nI (idv))), some (.int v9_239), none]) rfl ?_
                          refine x_goto hC d_Law_acts_244 (tgt := 294) (by decide) ?_
                          exact hret _ _ _ _ _ _ d_Law_acts_294 (by decide) (by decide) (⟨_, _, rfl, rfl, hM, pBd_up (pBd_chg hB (pOk_Se hB.1)) (by omega), by omega, hag⟩)
                        · skip
                          by_cases k_45_11 : (nI (r)) = nI 11
                          · skip
                            refine x_top (v := nI 11) k_45_11 ?_
                            refine x_tableIn hC d_Law_acts_45 (by decide +kernel) (by decide +kernel) (off := 202) (by decide +kernel) (tgt := 247) (by decide) ?_
                            refine x_aload_n hC d_Law_acts_247 rfl rfl ?_
                            refine x_aload_n hC d_Law_acts_248 rfl rfl ?_
                            refine x_callV hC kv_Law_108 (c_MessageCoder_hasFrameK (hM := hM) (hA := rfl) (A := M.1)) b0 rfl rfl (by decide) rfl rfl rfl (Nat.le_of_ble_eq_true rfl) (by decide) d_Law_acts_249 (fun r9 F9 z9 hp9 => ?_)
                            obtain ⟨rfl, h9b, h9c⟩ := hp9
                            rw [h9b, h9c]
                            clear h9b h9c F9 z9
                            refine x_ifB_eq hC d_Law_acts_252 (tgt := 268) (by decide) (fun c_252 => ?_) (fun c_252 => ?_)
                            · skip
                              refine x_iconst hC d_Law_acts_268 (v := nI 0) (by decide) ?_
                              refine x_callW hC kw_Law_115 (c_Law_flip (hM := hM) (hCM := hCM) (hSM := hSM) (hZx := hZx) (hpp0 := by have := hB.2.1; omega) (hun0 := by have := hB.2.2.1; omega) (hNx := hNx) (sm := sm)) (by decide) rfl rfl rfl (Nat.le_of_ble_eq_true rfl) (by decide) d_Law_acts_269 (fun r9 F9 z9 hp9 => ?_)
                              obtain ⟨v9_269, zz_269, rfl, h9c, j0, pw_269, hag9⟩ := hp9
                              rw [h9c]
                              clear h9c z9
                              generalize F9 = F12 at *
                              have hM : xMC F12 (cm) (b) ((chgM M (aFl M.1 (nI (0))))) := j0
                              have hag : ∀ a9 : Nat, (a9 < b ∨ b + 566 ≤ a9) → F12 a9 = F a9 := fun a9 q0 => (hag9 a9 (by omega)).trans (hag a9 q0)
                              have hg_269 := hag9
                              clear hag9
                              refine x_istore hC d_Law_acts_272 (Nat.le_of_ble_eq_true rfl) (L1 := [some (.ref b), some (.ref a), some (.int (nI (k))), some (.int (nI ((M.1).2.2.1.1))), some (.int (nI (v))), some (.int (nI (idv))), some (.int v9_269), none]) rfl ?_
                              refine x_goto hC d_Law_acts_274 (tgt := 294) (by decide) ?_
                              exact hret _ _ _ _ _ _ d_Law_acts_294 (by decide) (by decide) (⟨_, _, rfl, rfl, hM, pBd_up (pBd_chg hB (pOk_Fl hB.1 _)) (by omega), by omega, hag⟩)
                            · skip
                              refine x_bipush hC d_Law_acts_255 (v := nI 97) (by decide) ?_
                              refine x_iload hC d_Law_acts_257 rfl ?_
                              refine x_imul hC d_Law_acts_259 (v := (nI ((97) * (v)))) (pk_mul _ _) ?_
                              refine x_aload_n hC d_Law_acts_260 rfl rfl ?_
                              refine x_callV hC kv_Law_112 (c_MessageCoder_frameLengthK (hM := hM) (hA := rfl) (A := M.1)) b0 rfl rfl (by decide) rfl rfl rfl (Nat.le_of_ble_eq_true rfl) (by decide) d_Law_acts_261 (fun r9 F9 z9 hp9 => ?_)
                              obtain ⟨rfl, h9b, h9c⟩ := hp9
                              rw [h9b, h9c]
                              clear h9b h9c F9 z9
                              refine x_irem hC d_Law_acts_264 (x_ne0 (by omega) (by omega)) (v := (nI (((97) * (v)) % ((M.1).2.2.2.1.1 * 7)))) (pk_rem (by omega) (by omega) (by omega)) ?_
                              refine x_goto hC d_Law_acts_265 (tgt := 269) (by decide) ?_
                              refine x_callW hC kw_Law_115 (c_Law_flip (hM := hM) (hCM := hCM) (hSM := hSM) (hZx := hZx) (hpp0 := by have := hB.2.1; omega) (hun0 := by have := hB.2.2.1; omega) (hNx := hNx) (sm := sm)) (by decide) rfl rfl rfl (Nat.le_of_ble_eq_true rfl) (by decide) d_Law_acts_269 (fun r9 F9 z9 hp9 => ?_)
                              obtain ⟨v9_269, zz_269, rfl, h9c, j0, pw_269, hag9⟩ := hp9
                              rw [h9c]
                              clear h9c z9
                              generalize F9 = F13 at *
                              have hM : xMC F13 (cm) (b) ((chgM M (aFl M.1 (nI (((97) * (v)) % ((M.1).2.2.2.1.1 * 7)))))) := j0
                              have hag : ∀ a9 : Nat, (a9 < b ∨ b + 566 ≤ a9) → F13 a9 = F a9 := fun a9 q0 => (hag9 a9 (by omega)).trans (hag a9 q0)
                              have hg_269 := hag9
                              clear hag9
                              refine x_istore hC d_Law_acts_272 (Nat.le_of_ble_eq_true rfl) (L1 := [some (.ref b), some (.ref a), some (.int (nI (k))), some (.int (nI ((M.1).2.2.1.1))), some (.int (nI (v))), some (.int (nI (idv))), some (.int v9_269), none]) rfl ?_
                              refine x_goto hC d_Law_acts_274 (tgt := 294) (by decide) ?_
                              exact hret _ _ _ _ _ _ d_Law_acts_294 (by decide) (by decide) (⟨_, _, rfl, rfl, hM, pBd_up (pBd_chg hB (pOk_Fl hB.1 _)) (by omega), by omega, hag⟩)
                          · skip
                            by_cases k_45_12 : (nI (r)) = nI 12
                            · skip
                              refine x_top (v := nI 12) k_45_12 ?_
                              refine x_tableIn hC d_Law_acts_45 (by decide +kernel) (by decide +kernel) (off := 202) (by decide +kernel) (tgt := 247) (by decide) ?_
                              refine x_aload_n hC d_Law_acts_247 rfl rfl ?_
                              refine x_aload_n hC d_Law_acts_248 rfl rfl ?_
                              refine x_callV hC kv_Law_108 (c_MessageCoder_hasFrameK (hM := hM) (hA := rfl) (A := M.1)) b0 rfl rfl (by decide) rfl rfl rfl (Nat.le_of_ble_eq_true rfl) (by decide) d_Law_acts_249 (fun r9 F9 z9 hp9 => ?_)
                              obtain ⟨rfl, h9b, h9c⟩ := hp9
                              rw [h9b, h9c]
                              clear h9b h9c F9 z9
                              refine x_ifB_eq hC d_Law_acts_252 (tgt := 268) (by decide) (fun c_252 => ?_) (fun c_252 => ?_)
                              · skip
                                refine x_iconst hC d_Law_acts_268 (v := nI 0) (by decide) ?_
                                refine x_callW hC kw_Law_115 (c_Law_flip (hM := hM) (hCM := hCM) (hSM := hSM) (hZx := hZx) (hpp0 := by have := hB.2.1; omega) (hun0 := by have := hB.2.2.1; omega) (hNx := hNx) (sm := sm)) (by decide) rfl rfl rfl (Nat.le_of_ble_eq_true rfl) (by decide) d_Law_acts_269 (fun r9 F9 z9 hp9 => ?_)
                                obtain ⟨v9_269, zz_269, rfl, h9c, j0, pw_269, hag9⟩ := hp9
                                rw [h9c]
                                clear h9c z9
                                generalize F9 = F14 at *
                                have hM : xMC F14 (cm) (b) ((chgM M (aFl M.1 (nI (0))))) := j0
                                have hag : ∀ a9 : Nat, (a9 < b ∨ b + 566 ≤ a9) → F14 a9 = F a9 := fun a9 q0 => (hag9 a9 (by omega)).trans (hag a9 q0)
                                have hg_269 := hag9
                                clear hag9
                                refine x_istore hC d_Law_acts_272 (Nat.le_of_ble_eq_true rfl) (L1 := [some (.ref b), some (.ref a), some (.int (nI (k))), some (.int (nI ((M.1).2.2.1.1))), some (.int (nI (v))), some (.int (nI (idv))), some (.int v9_269), none]) rfl ?_
                                refine x_goto hC d_Law_acts_274 (tgt := 294) (by decide) ?_
                                exact hret _ _ _ _ _ _ d_Law_acts_294 (by decide) (by decide) (⟨_, _, rfl, rfl, hM, pBd_up (pBd_chg hB (pOk_Fl hB.1 _)) (by omega), by omega, hag⟩)
                              · skip
                                refine x_bipush hC d_Law_acts_255 (v := nI 97) (by decide) ?_
                                refine x_iload hC d_Law_acts_257 rfl ?_
                                refine x_imul hC d_Law_acts_259 (v := (nI ((97) * (v)))) (pk_mul _ _) ?_
                                refine x_aload_n hC d_Law_acts_260 rfl rfl ?_
                                refine x_callV hC kv_Law_112 (c_MessageCoder_frameLengthK (hM := hM) (hA := rfl) (A := M.1)) b0 rfl rfl (by decide) rfl rfl rfl (Nat.le_of_ble_eq_true rfl) (by decide) d_Law_acts_261 (fun r9 F9 z9 hp9 => ?_)
                                obtain ⟨rfl, h9b, h9c⟩ := hp9
                                rw [h9b, h9c]
                                clear h9b h9c F9 z9
                                refine x_irem hC d_Law_acts_264 (x_ne0 (by omega) (by omega)) (v := (nI (((97) * (v)) % ((M.1).2.2.2.1.1 * 7)))) (pk_rem (by omega) (by omega) (by omega)) ?_
                                refine x_goto hC d_Law_acts_265 (tgt := 269) (by decide) ?_
                                refine x_callW hC kw_Law_115 (c_Law_flip (hM := hM) (hCM := hCM) (hSM := hSM) (hZx := hZx) (hpp0 := by have := hB.2.1; omega) (hun0 := by have := hB.2.2.1; omega) (hNx := hNx) (sm := sm)) (by decide) rfl rfl rfl (Nat.le_of_ble_eq_true rfl) (by decide) d_Law_acts_269 (fun r9 F9 z9 hp9 => ?_)
                                obtain ⟨v9_269, zz_269, rfl, h9c, j0, pw_269, hag9⟩ := hp9
                                rw [h9c]
                                clear h9c z9
                                generalize F9 = F15 at *
                                have hM : xMC F15 (cm) (b) ((chgM M (aFl M.1 (nI (((97) * (v)) % ((M.1).2.2.2.1.1 * 7)))))) := j0
                                have hag : ∀ a9 : Nat, (a9 < b ∨ b + 566 ≤ a9) → F15 a9 = F a9 := fun a9 q0 => (hag9 a9 (by omega)).trans (hag a9 q0)
                                have hg_269 := hag9
                                clear hag9
                                refine x_istore hC d_Law_acts_272 (Nat.le_of_ble_eq_true rfl) (L1 := [some (.ref b), some (.ref a), some (.int (nI (k))), some (.int (nI ((M.1).2.2.1.1))), some (.int (nI (v))), some (.int (nI (idv))), some (.int v9_269), none]) rfl ?_
                                refine x_goto hC d_Law_acts_274 (tgt := 294) (by decide) ?_
                                exact hret _ _ _ _ _ _ d_Law_acts_294 (by decide) (by decide) (⟨_, _, rfl, rfl, hM, pBd_up (pBd_chg hB (pOk_Fl hB.1 _)) (by omega), by omega, hag⟩)
                            · skip
                              by_cases k_45_13 : (nI (r)) = nI 13
                              · skip
                                refine x_top (v := nI 13) k_45_13 ?_
                                refine x_tableIn hC d_Law_acts_45 (by decide +kernel) (by decide +kernel) (off := 202) (by decide +kernel) (tgt := 247) (by decide) ?_
                                refine x_aload_n hC d_Law_acts_247 rfl rfl ?_
                                refine x_aload_n hC d_Law_acts_248 rfl rfl ?_
                                refine x_callV hC kv_Law_108 (c_MessageCoder_hasFrameK (hM := hM) (hA := rfl) (A := M.1)) b0 rfl rfl (by decide) rfl rfl rfl (Nat.le_of_ble_eq_true rfl) (by decide) d_Law_acts_249 (fun r9 F9 z9 hp9 => ?_)
                                obtain ⟨rfl, h9b, h9c⟩ := hp9
                                rw [h9b, h9c]
                                clear h9b h9c F9 z9
                                refine x_ifB_eq hC d_Law_acts_252 (tgt := 268) (by decide) (fun c_252 => ?_) (fun c_252 => ?_)
                                · skip
                                  refine x_iconst hC d_Law_acts_268 (v := nI 0) (by decide) ?_
                                  refine x_callW hC kw_Law_115 (c_Law_flip (hM := hM) (hCM := hCM) (hSM := hSM) (hZx := hZx) (hpp0 := by have := hB.2.1; omega) (hun0 := by have := hB.2.2.1; omega) (hNx := hNx) (sm := sm)) (by decide) rfl rfl rfl (Nat.le_of_ble_eq_true rfl) (by decide) d_Law_acts_269 (fun r9 F9 z9 hp9 => ?_)
                                  obtain ⟨v9_269, zz_269, rfl, h9c, j0, pw_269, hag9⟩ := hp9
                                  rw [h9c]
                                  clear h9c z9
                                  generalize F9 = F16 at *
                                  have hM : xMC F16 (cm) (b) ((chgM M (aFl M.1 (nI (0))))) := j0
                                  have hag : ∀ a9 : Nat, (a9 < b ∨ b + 566 ≤ a9) → F16 a9 = F a9 := fun a9 q0 => (hag9 a9 (by omega)).trans (hag a9 q0)
                                  have hg_269 := hag9
                                  clear hag9
                                  refine x_istore hC d_Law_acts_272 (Nat.le_of_ble_eq_true rfl) (L1 := [some (.ref b), some (.ref a), some (.int (nI (k))), some (.int (nI ((M.1).2.2.1.1))), some (.int (nI (v))), some (.int (nI (idv))), some (.int v9_269), none]) rfl ?_
                                  refine x_goto hC d_Law_acts_274 (tgt := 294) (by decide) ?_
                                  exact hret _ _ _ _ _ _ d_Law_acts_294 (by decide) (by decide) (⟨_, _, rfl, rfl, hM, pBd_up (pBd_chg hB (pOk_Fl hB.1 _)) (by omega), by omega, hag⟩)
                                · skip
                                  refine x_bipush hC d_Law_acts_255 (v := nI 97) (by decide) ?_
                                  refine x_iload hC d_Law_acts_257 rfl ?_
                                  refine x_imul hC d_Law_acts_259 (v := (nI ((97) * (v)))) (pk_mul _ _) ?_
                                  refine x_aload_n hC d_Law_acts_260 rfl rfl ?_
                                  refine x_callV hC kv_Law_112 (c_MessageCoder_frameLengthK (hM := hM) (hA := rfl) (A := M.1)) b0 rfl rfl (by decide) rfl rfl rfl (Nat.le_of_ble_eq_true rfl) (by decide) d_Law_acts_261 (fun r9 F9 z9 hp9 => ?_)
                                  obtain ⟨rfl, h9b, h9c⟩ := hp9
                                  rw [h9b, h9c]
                                  clear h9b h9c F9 z9
                                  refine x_irem hC d_Law_acts_264 (x_ne0 (by omega) (by omega)) (v := (nI (((97) * (v)) % ((M.1).2.2.2.1.1 * 7)))) (pk_rem (by omega) (by omega) (by omega)) ?_
                                  refine x_goto hC d_Law_acts_265 (tgt := 269) (by decide) ?_
                                  refine x_callW hC kw_Law_115 (c_Law_flip (hM := hM) (hCM := hCM) (hSM := hSM) (hZx := hZx) (hpp0 := by have := hB.2.1; omega) (hun0 := by have := hB.2.2.1; omega) (hNx := hNx) (sm := sm)) (by decide) rfl rfl rfl (Nat.le_of_ble_eq_true rfl) (by decide) d_Law_acts_269 (fun r9 F9 z9 hp9 => ?_)
                                  obtain ⟨v9_269, zz_269, rfl, h9c, j0, pw_269, hag9⟩ := hp9
                                  rw [h9c]
                                  clear h9c z9
                                  generalize F9 = F17 at *
                                  have hM : xMC F17 (cm) (b) ((chgM M (aFl M.1 (nI (((97) * (v)) % ((M.1).2.2.2.1.1 * 7)))))) := j0
                                  have hag : ∀ a9 : Nat, (a9 < b ∨ b + 566 ≤ a9) → F17 a9 = F a9 := fun a9 q0 => (hag9 a9 (by omega)).trans (hag a9 q0)
                                  have hg_269 := hag9
                                  clear hag9
                                  refine x_istore hC d_Law_acts_272 (Nat.le_of_ble_eq_true rfl) (L1 := [some (.ref b), some (.ref a), some (.int (nI (k))), some (.int (nI ((M.1).2.2.1.1))), some (.int (nI (v))), some (.int (nI (idv))), some (.int v9_269), none]) rfl ?_
                                  refine x_goto hC d_Law_acts_274 (tgt := 294) (by decide) ?_
                                  exact hret _ _ _ _ _ _ d_Law_acts_294 (by decide) (by decide) (⟨_, _, rfl, rfl, hM, pBd_up (pBd_chg hB (pOk_Fl hB.1 _)) (by omega), by omega, hag⟩)
                              · skip
                                obtain rfl : r = 14 := by
                                  refine Classical.byContradiction fun hn => ?_
                                  have h9 : r = 0 ∨ r = 1 ∨ r = 2 ∨ r = 3 ∨ r = 4 ∨ r = 5 ∨ r = 6 ∨ r = 7 ∨ r = 8 ∨ r = 9 ∨ r = 10 ∨ r = 11 ∨ r = 12 ∨ r = 13 := by omega
                                  rcases h9 with rfl | rfl | rfl | rfl | rfl | rfl | rfl | rfl | rfl | rfl | rfl | rfl | rfl | rfl
                                  · exact k_45_0 rfl
                                  · exact k_45_1 rfl
                                  · exact k_45_2 rfl
                                  · exact k_45_3 rfl
                                  · exact k_45_4 rfl
                                  · exact k_45_5 rfl
                                  · exact k_45_6 rfl
                                  · exact k_45_7 rfl
                                  · exact k_45_8 rfl
                                  · exact k_45_9 rfl
                                  · exact k_45_10 rfl
                                  · exact k_45_11 rfl
                                  · exact k_45_12 rfl
                                  · exact k_45_13 rfl
                                refine x_tableOut hC d_Law_acts_45 (Or.inr (by decide)) (tgt := 277) (by decide) ?_
                                refine x_iload hC d_Law_acts_277 rfl ?_
                                refine x_iconst hC d_Law_acts_279 (v := nI 3) (by decide) ?_
                                refine x_irem hC d_Law_acts_280 (x_ne0 (by omega) (by omega)) (v := (nI ((v) % (3)))) (pk_rem (by omega) (by omega) (by omega)) ?_
                                refine x_ifN_ne hC d_Law_acts_281 (tgt := 291) (by decide) (by omega) (fun c_281 => ?_) (fun c_281 => ?_)
                                · skip
                                  refine x_iconst hC d_Law_acts_291 (v := nI 0) (by decide) ?_
                                  refine x_istore hC d_Law_acts_292 (Nat.le_of_ble_eq_true rfl) (L1 := [some (.ref b), some (.ref a), some (.int (nI (k))), some (.int (nI ((M.1).2.2.1.1))), some (.int (nI (v))), some (.int (nI (idv))), some (.int (nI 0)), none]) rfl ?_
                                  exact hret _ _ _ _ _ _ d_Law_acts_294 (by decide) (by decide) (⟨_, _, rfl, rfl, hM, pBd_up hB (by omega), by omega, hag⟩)
                                · skip
                                  refine x_aload_n hC d_Law_acts_284 rfl rfl ?_
                                  refine x_callW hC kw_Law_117 (c_Law_receive (hM := hM) (hCM := hCM) (hSM := hSM) (hZx := hZx) (hpp0 := by have := hB.2.1; omega) (hun0 := by have := hB.2.2.1; omega) (hNx := hNx) (sm := sm)) (by decide) rfl rfl rfl (Nat.le_of_ble_eq_true rfl) (by decide) d_Law_acts_285 (fun r9 F9 z9 hp9 => ?_)
                                  obtain ⟨v9_285, zz_285, rfl, h9c, j0, pw_285, hag9⟩ := hp9
                                  rw [h9c]
                                  clear h9c z9
                                  generalize F9 = F18 at *
                                  have hM : xMC F18 (cm) (b) ((chgM M (aRe M.1))) := j0
                                  have hag : ∀ a9 : Nat, (a9 < b ∨ b + 566 ≤ a9) → F18 a9 = F a9 := fun a9 q0 => (hag9 a9 (by omega)).trans (hag a9 q0)
                                  have hg_285 := hag9
                                  clear hag9
                                  refine x_goto hC d_Law_acts_288 (tgt := 292) (by decide) ?_
                                  refine x_istore hC d_Law_acts_292 (Nat.le_of_ble_eq_true rfl) (L1 := [some (.ref b), some (.ref a), some (.int (nI (k))), some (.int (nI ((M.1).2.2.1.1))), some (.int (nI (v))), some (.int (nI (idv))), some (.int v9_285), none]) rfl ?_
                                  exact hret _ _ _ _ _ _ d_Law_acts_294 (by decide) (by decide) (⟨_, _, rfl, rfl, hM, pBd_up (pBd_chg hB (pOk_Re hB.1)) (by omega), by omega, hag⟩)
  refine x_iload_n hC d_Law_acts_16 rfl rfl ?_
  refine x_ifN_le hC d_Law_acts_17 (tgt := 35) (by decide) (by omega) (fun c_17 => ?_) (fun c_17 => ?_)
  · skip
    refine x_iconst hC d_Law_acts_35 (v := nI 0) (by decide) ?_
    refine x_widen (k1 := 1) (n1 := 6) (by omega) (by omega) ?_
    exact join_36 (0) (by first | exact hid9 | omega)
  · skip
    refine x_aload_n hC d_Law_acts_20 rfl rfl ?_
    refine x_aload_n hC d_Law_acts_21 rfl rfl ?_
    refine x_iload_n hC d_Law_acts_22 rfl rfl ?_
    refine x_iconst hC d_Law_acts_23 (v := nI 2) (by decide) ?_
    refine x_iadd hC d_Law_acts_24 (v := (nI (k + 2))) (x_addN (by omega)) ?_
    refine x_iload_n hC d_Law_acts_25 rfl rfl ?_
    refine x_callS hC ks_Law_78 (c_Law_some (hS := hS) (hk := by omega) (hn := by omega) (N := N) (xs := xs)) (by decide) rfl rfl rfl (Nat.le_of_ble_eq_true rfl) (by decide) d_Law_acts_26 (fun r9 F9 z9 hp9 => ?_)
    obtain ⟨rfl, h9b, h9c⟩ := hp9
    rw [h9b, h9c]
    clear h9b h9c F9 z9
    obtain ⟨r2, hr2⟩ : ∃ c9 : Nat, c9 = lsome N xs (k + 2) ((M.1).2.2.1.1) := ⟨_, rfl⟩
    rw [← hr2]
    have hr2 : r2 < M.1.2.2.1.1 := by rw [hr2]; exact Nat.mod_lt _ (by omega)
    have hrk := rankAt_ok (r := r2) i2 io hr2
    have hnx9 := hB.2.2.2.1
    have hid9 : (M.1.2.2.1.2.2 (mRk M.1 (nI r2))).1 < 1000 := Nat.lt_of_lt_of_le (im _ hrk.1).1 (by omega)
    refine x_callV hC kv_Law_55 (c_MessageCoder_messageAtK (hM := hM) (hA := rfl) (hZx := hZx) (n0 := hrk.1) (A := M.1)) b0 rfl rfl (by decide) rfl rfl rfl (Nat.le_of_ble_eq_true rfl) (by decide) d_Law_acts_29 (fun r9 F9 z9 hp9 => ?_)
    obtain ⟨rfl, h9b, h9c⟩ := hp9
    rw [h9b, h9c]
    clear h9b h9c F9 z9
    refine x_goto hC d_Law_acts_32 (tgt := 36) (by decide) ?_
    refine x_widen (k1 := 1) (n1 := 6) (by omega) (by omega) ?_
    exact join_36 (((M.1).2.2.1.2.2 (mRk (M.1) (nI r2))).1) (by first | exact hid9 | omega)

