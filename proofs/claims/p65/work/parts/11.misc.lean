section XM0
variable {P : xP} {Θ : xT} {cc : ByteArray} {own : String} {nL d mc ms pc : Nat} {L : List (Option Value)} {st : List Value} {F : xF} {z k n : Nat}
theorem x_getsN (hC : xC P Θ cc own nL d mc ms) {C nm ds host : String} {v : Value} {index : Nat} (hz : ∀ U, P.2.2.2.2 U → va_Z C nm ds v (xA0 P) U P.2.2.1) (hk : Cond.fieldLinkNest own index C nm ds host ∈ x_nst) (hd : decode cc pc = .ok (.getstatic index, 3)) (kk : xX P Θ (pc + 3) L (v :: st) F z k n) : xX P Θ pc L st F z k n := by
  intro H locs ls hW hl hx
  obtain ⟨U0, hal, hks⟩ := hC.2.2.2.2.2.1.2.2.2
  obtain ⟨cf, kf, fi, f, a, cell, h1, h2, h3, h4, h5, h6, h7, h8⟩ := va_Z.moved hal (hz U0 hks)
  exact va_WgetsN hC.1 hC.2.1 hC.2.2.2.1 (va_Nw.use rfl (hC.2.2.2.2.2.1.2.2.1 _ hk)) h1 h2 h3 h4 (by rw [x_old hW h8]; exact h5) (fun e => by rw [e] at h6; cases h6) h7 (g := F0 Θ.2.2.2.2.1 pc ls st) rfl hd (kk H locs ls hW hl hx)
theorem x_ldcw (hC : xC P Θ cc own nL d mc ms) {v : Int32} {index : Nat} (hk : Cond.constant own index v ∈ x_tbl) (hd : decode cc pc = .ok (.ldc_w index, 3)) (kk : xX P Θ (pc + 3) L (.int v :: st) F z k n) : xX P Θ pc L st F z k n :=
  fun H locs ls hW hl hx => lv_ldcw hC.1 hC.2.1 hC.2.2.2.1 (hC.2.2.2.2.1 _ hk) hd (kk H locs ls hW hl hx)
theorem x_ldc (hC : xC P Θ cc own nL d mc ms) {v : Int32} {index : Nat} (hk : Cond.constant own index v ∈ x_tbl) (hd : decode cc pc = .ok (.ldc index, 2)) (kk : xX P Θ (pc + 2) L (.int v :: st) F z k n) : xX P Θ pc L st F z k n :=
  fun H locs ls hW hl hx => lv_ldc hC.1 hC.2.1 hC.2.2.2.1 (hC.2.2.2.2.1 _ hk) hd (kk H locs ls hW hl hx)
end XM0
/-- the remainder that is never below 0 -/
def fmJ (x y : Int32) : Int32 := if 0 ≤ x ^^^ y then x - x / y * y else if x - x / y * y = 0 then x - x / y * y else x - x / y * y + y
theorem fmJ_n4 : ∀ n, n ≤ 112 → fmJ (-(nI n)) (nI 4) = nI ((4 - n % 4) % 4) := by decide +kernel
theorem fmJ_9 {n : Nat} (h : n < 2 ^ 31) : fmJ (nI n) (nI 9) = nI (n % 9) := by
  have e : nI n - nI n / nI 9 * nI 9 = nI (n % 9) := pk_rem (by omega) (by omega) (by omega)
  unfold fmJ
  rw [e]
  split
  · rfl
  · rename_i hc
    exfalso
    apply hc
    rw [x_xorN]
    have hx : n ^^^ 9 < 2 ^ 31 := Nat.xor_lt_two_pow h (by decide)
    show nI 0 ≤ nI (n ^^^ 9)
    exact (nI_leI (by decide) hx).mpr (Nat.zero_le _)
/-- the ones of a number -/
def popN (x : Nat) : Nat → Nat
  | 0 => 0
  | k + 1 => popN x k + x / 2 ^ k % 2
def popc (x : Nat) : Nat := popN x 7
def bc1 (x : Int32) : Int32 := x - ((x.toUInt32 >>> ((nI 1).toUInt32 &&& Int32.toUInt32 31)).toInt32 &&& nI 1431655765)
def bc2 (x : Int32) : Int32 := (x &&& nI 858993459) + ((x.toUInt32 >>> ((nI 2).toUInt32 &&& Int32.toUInt32 31)).toInt32 &&& nI 858993459)
def bc3 (x : Int32) : Int32 := (x + (x.toUInt32 >>> ((nI 4).toUInt32 &&& Int32.toUInt32 31)).toInt32) &&& nI 252645135
def bc4 (x : Int32) : Int32 := x + (x.toUInt32 >>> ((nI 8).toUInt32 &&& Int32.toUInt32 31)).toInt32
def bc5 (x : Int32) : Int32 := x + (x.toUInt32 >>> ((nI 16).toUInt32 &&& Int32.toUInt32 31)).toInt32
theorem bc_all : ∀ a, a < 128 → bc5 (bc4 (bc3 (bc2 (bc1 (nI a))))) &&& nI 63 = nI (popc a) := by decide +kernel
theorem popc_le (a : Nat) : popc a ≤ 7 := by
  have h : ∀ k, popN a k ≤ k := by
    intro k
    induction k with
    | zero => exact Nat.le_refl 0
    | succ k ih => unfold popN; omega
  exact h 7
/-! remainders by the table -/
def crcZ (n : Nat) (f : Nat → Nat) (lz : Nat) : Nat → Nat
  | 0 => 0
  | q + 1 => crcS (crcZ n f lz q) (zbt n f lz q)
def z4 (s : Nat) : Nat := crcS (crcS (crcS (crcS s 0) 0) 0) 0
theorem z4_le {s : Nat} (h : s ≤ 15) : z4 s ≤ 15 := crcS_le (crcS_le (crcS_le (crcS_le h (by decide)) (by decide)) (by decide)) (by decide)
theorem crcZ_le {n : Nat} {f : Nat → Nat} (h : ∀ j, j < n → f j ≤ 1) (lz : Nat) : ∀ q, crcZ n f lz q ≤ 15
  | 0 => Nat.zero_le _
  | q + 1 => crcS_le (crcZ_le h lz q) (zbt_le h lz q)
theorem crcZ_0 (n : Nat) (f : Nat → Nat) (lz : Nat) : ∀ q, q ≤ lz → crcZ n f lz q = 0
  | 0, _ => rfl
  | q + 1, h => by
    unfold crcZ
    rw [crcZ_0 n f lz q (by omega), zbt, if_neg (by omega)]
    rfl
theorem crcZ_B (n : Nat) (f : Nat → Nat) (lz : Nat) : ∀ q, crcZ n f lz (lz + q) = crcB n f q
  | 0 => crcZ_0 n f lz lz (Nat.le_refl _)
  | q + 1 => by
    show crcS (crcZ n f lz (lz + q)) (zbt n f lz (lz + q)) = crcS (crcB n f q) (zbt n f 0 q)
    rw [crcZ_B n f lz q]
    congr 1
    unfold zbt
    rw [show lz + q - lz = q by omega, show q - 0 = q by omega]
    by_cases hq : q < n
    · rw [if_pos (by omega), if_pos (by omega)]
    · rw [if_neg (by omega), if_neg (by omega)]
theorem crcB_n4 (n : Nat) (f : Nat → Nat) : crcB n f (n + 4) = z4 (crcB n f n) := by
  have h : ∀ k, n ≤ k → zbt n f 0 k = 0 := fun k hk => by rw [zbt, if_neg (by omega)]
  show crcS (crcS (crcS (crcS (crcB n f n) (zbt n f 0 n)) (zbt n f 0 (n + 1))) (zbt n f 0 (n + 2))) (zbt n f 0 (n + 3)) = _
  rw [h n (by omega), h (n + 1) (by omega), h (n + 2) (by omega), h (n + 3) (by omega)]
  rfl
theorem tab_all : ∀ s, s < 16 → ∀ a, a < 2 → ∀ b, b < 2 → ∀ c, c < 2 → ∀ e, e < 2 → remT ((z4 s ^^^ (((a * 2 + b) * 2 + c) * 2 + e)) % 16) = z4 (crcS (crcS (crcS (crcS s a) b) c) e) := by decide +kernel
theorem tab_step {n : Nat} {f : Nat → Nat} (h : ∀ j, j < n → f j ≤ 1) (lz q : Nat) : remT ((z4 (crcZ n f lz q) ^^^ fourB n f lz q) % 16) = z4 (crcZ n f lz (q + 4)) :=
  tab_all _ (by have := crcZ_le h lz q; omega) _ (by have := zbt_le h lz q; omega) _ (by have := zbt_le h lz (q + 1); omega) _ (by have := zbt_le h lz (q + 2); omega) _ (by have := zbt_le h lz (q + 3); omega)
theorem x_neg (a : Nat) : -(nI a) = nI 0 - nI a := by
  show -(nI a) = 0 - nI a
  rw [Int32.zero_sub]

theorem d_Math_floorMod_0 : decode prog_30_method_50_code 0 = .ok (.iload_n 0, 1) := by decide +kernel
theorem d_Math_floorMod_1 : decode prog_30_method_50_code 1 = .ok (.iload_n 1, 1) := by decide +kernel
theorem d_Math_floorMod_2 : decode prog_30_method_50_code 2 = .ok (.irem, 1) := by decide +kernel
theorem d_Math_floorMod_3 : decode prog_30_method_50_code 3 = .ok (.istore_n 2, 1) := by decide +kernel
theorem d_Math_floorMod_4 : decode prog_30_method_50_code 4 = .ok (.iload_n 0, 1) := by decide +kernel
theorem d_Math_floorMod_5 : decode prog_30_method_50_code 5 = .ok (.iload_n 1, 1) := by decide +kernel
theorem d_Math_floorMod_6 : decode prog_30_method_50_code 6 = .ok (.ixor, 1) := by decide +kernel
theorem d_Math_floorMod_7 : decode prog_30_method_50_code 7 = .ok (.ifCond .ge 11, 3) := by decide +kernel
theorem d_Math_floorMod_10 : decode prog_30_method_50_code 10 = .ok (.iload_n 2, 1) := by decide +kernel
theorem d_Math_floorMod_11 : decode prog_30_method_50_code 11 = .ok (.ifCond .eq 7, 3) := by decide +kernel
theorem d_Math_floorMod_14 : decode prog_30_method_50_code 14 = .ok (.iload_n 2, 1) := by decide +kernel
theorem d_Math_floorMod_15 : decode prog_30_method_50_code 15 = .ok (.iload_n 1, 1) := by decide +kernel
theorem d_Math_floorMod_16 : decode prog_30_method_50_code 16 = .ok (.iadd, 1) := by decide +kernel
theorem d_Math_floorMod_17 : decode prog_30_method_50_code 17 = .ok (.ireturn, 1) := by decide +kernel
theorem d_Math_floorMod_18 : decode prog_30_method_50_code 18 = .ok (.iload_n 2, 1) := by decide +kernel
theorem d_Math_floorMod_19 : decode prog_30_method_50_code 19 = .ok (.ireturn, 1) := by decide +kernel
set_option maxHeartbeats 4000000 in
set_option maxRecDepth 20000 in
theorem c_Math_floorMod {P : xP} {F : xF} {z : Nat} {x : Int32} {y : Int32}  (hy : ¬ y = 0) : xM P xy_Math_floorMod [.int x, .int y] F (z) 0 0 (fun r9 F9 z9 => r9 = some (.int (fmJ x y)) ∧ F9 = F ∧ z9 = z) := by
  refine xM_i .int (by decide +kernel) (Nat.le_of_ble_eq_true rfl) (L0 := [some (.int x), some (.int y), none]) rfl rfl fun Θ hC hret => ?_
  refine x_iload_n hC d_Math_floorMod_0 rfl rfl ?_
  refine x_iload_n hC d_Math_floorMod_1 rfl rfl ?_
  refine x_irem hC d_Math_floorMod_2 hy (v := ((x) - (x) / (y) * (y))) rfl ?_
  refine x_istore_n hC d_Math_floorMod_3 rfl (Nat.le_of_ble_eq_true rfl) (L1 := [some (.int x), some (.int y), some (.int ((x) - (x) / (y) * (y)))]) rfl ?_
  refine x_iload_n hC d_Math_floorMod_4 rfl rfl ?_
  refine x_iload_n hC d_Math_floorMod_5 rfl rfl ?_
  refine x_ixor hC d_Math_floorMod_6 (v := ((x) ^^^ (y))) rfl ?_
  refine x_if_ge hC d_Math_floorMod_7 (tgt := 18) (by decide) (fun c_7 => ?_) (fun c_7 => ?_)
  · skip
    refine x_iload_n hC d_Math_floorMod_18 rfl rfl ?_
    exact hret _ _ _ _ _ _ _ d_Math_floorMod_19 (by decide) (by decide) rfl (⟨congrArg (fun q => some (Value.int q)) (by rw [fmJ, if_pos c_7]), rfl, rfl⟩)
  · skip
    refine x_iload_n hC d_Math_floorMod_10 rfl rfl ?_
    refine x_if_eq hC d_Math_floorMod_11 (tgt := 18) (by decide) (fun c_11 => ?_) (fun c_11 => ?_)
    · skip
      refine x_iload_n hC d_Math_floorMod_18 rfl rfl ?_
      exact hret _ _ _ _ _ _ _ d_Math_floorMod_19 (by decide) (by decide) rfl (⟨congrArg (fun q => some (Value.int q)) (by rw [fmJ, if_neg (fun h9 => c_7 h9), if_pos c_11]), rfl, rfl⟩)
    · skip
      refine x_iload_n hC d_Math_floorMod_14 rfl rfl ?_
      refine x_iload_n hC d_Math_floorMod_15 rfl rfl ?_
      refine x_iadd hC d_Math_floorMod_16 (v := (((x) - (x) / (y) * (y)) + (y))) rfl ?_
      exact hret _ _ _ _ _ _ _ d_Math_floorMod_17 (by decide) (by decide) rfl (⟨congrArg (fun q => some (Value.int q)) (by rw [fmJ, if_neg (fun h9 => c_7 h9), if_neg c_11]), rfl, rfl⟩)

theorem d_Integer_bitCount_0 : decode prog_28_method_49_code 0 = .ok (.iload_n 0, 1) := by decide +kernel
theorem d_Integer_bitCount_1 : decode prog_28_method_49_code 1 = .ok (.iload_n 0, 1) := by decide +kernel
theorem d_Integer_bitCount_2 : decode prog_28_method_49_code 2 = .ok (.iconst 1, 1) := by decide +kernel
theorem d_Integer_bitCount_3 : decode prog_28_method_49_code 3 = .ok (.iushr, 1) := by decide +kernel
theorem d_Integer_bitCount_4 : decode prog_28_method_49_code 4 = .ok (.ldc_w 265, 3) := by decide +kernel
theorem d_Integer_bitCount_7 : decode prog_28_method_49_code 7 = .ok (.iand, 1) := by decide +kernel
theorem d_Integer_bitCount_8 : decode prog_28_method_49_code 8 = .ok (.isub, 1) := by decide +kernel
theorem d_Integer_bitCount_9 : decode prog_28_method_49_code 9 = .ok (.istore_n 0, 1) := by decide +kernel
theorem d_Integer_bitCount_10 : decode prog_28_method_49_code 10 = .ok (.iload_n 0, 1) := by decide +kernel
theorem d_Integer_bitCount_11 : decode prog_28_method_49_code 11 = .ok (.ldc_w 266, 3) := by decide +kernel
theorem d_Integer_bitCount_14 : decode prog_28_method_49_code 14 = .ok (.iand, 1) := by decide +kernel
theorem d_Integer_bitCount_15 : decode prog_28_method_49_code 15 = .ok (.iload_n 0, 1) := by decide +kernel
theorem d_Integer_bitCount_16 : decode prog_28_method_49_code 16 = .ok (.iconst 2, 1) := by decide +kernel
theorem d_Integer_bitCount_17 : decode prog_28_method_49_code 17 = .ok (.iushr, 1) := by decide +kernel
theorem d_Integer_bitCount_18 : decode prog_28_method_49_code 18 = .ok (.ldc_w 266, 3) := by decide +kernel
theorem d_Integer_bitCount_21 : decode prog_28_method_49_code 21 = .ok (.iand, 1) := by decide +kernel
theorem d_Integer_bitCount_22 : decode prog_28_method_49_code 22 = .ok (.iadd, 1) := by decide +kernel
theorem d_Integer_bitCount_23 : decode prog_28_method_49_code 23 = .ok (.istore_n 0, 1) := by decide +kernel
theorem d_Integer_bitCount_24 : decode prog_28_method_49_code 24 = .ok (.iload_n 0, 1) := by decide +kernel
theorem d_Integer_bitCount_25 : decode prog_28_method_49_code 25 = .ok (.iload_n 0, 1) := by decide +kernel
theorem d_Integer_bitCount_26 : decode prog_28_method_49_code 26 = .ok (.iconst 4, 1) := by decide +kernel
theorem d_Integer_bitCount_27 : decode prog_28_method_49_code 27 = .ok (.iushr, 1) := by decide +kernel
theorem d_Integer_bitCount_28 : decode prog_28_method_49_code 28 = .ok (.iadd, 1) := by decide +kernel
theorem d_Integer_bitCount_29 : decode prog_28_method_49_code 29 = .ok (.ldc_w 267, 3) := by decide +kernel
theorem d_Integer_bitCount_32 : decode prog_28_method_49_code 32 = .ok (.iand, 1) := by decide +kernel
theorem d_Integer_bitCount_33 : decode prog_28_method_49_code 33 = .ok (.istore_n 0, 1) := by decide +kernel
theorem d_Integer_bitCount_34 : decode prog_28_method_49_code 34 = .ok (.iload_n 0, 1) := by decide +kernel
theorem d_Integer_bitCount_35 : decode prog_28_method_49_code 35 = .ok (.iload_n 0, 1) := by decide +kernel
theorem d_Integer_bitCount_36 : decode prog_28_method_49_code 36 = .ok (.bipush 8, 2) := by decide +kernel
theorem d_Integer_bitCount_38 : decode prog_28_method_49_code 38 = .ok (.iushr, 1) := by decide +kernel
theorem d_Integer_bitCount_39 : decode prog_28_method_49_code 39 = .ok (.iadd, 1) := by decide +kernel
theorem d_Integer_bitCount_40 : decode prog_28_method_49_code 40 = .ok (.istore_n 0, 1) := by decide +kernel
theorem d_Integer_bitCount_41 : decode prog_28_method_49_code 41 = .ok (.iload_n 0, 1) := by decide +kernel
theorem d_Integer_bitCount_42 : decode prog_28_method_49_code 42 = .ok (.iload_n 0, 1) := by decide +kernel
theorem d_Integer_bitCount_43 : decode prog_28_method_49_code 43 = .ok (.bipush 16, 2) := by decide +kernel
theorem d_Integer_bitCount_45 : decode prog_28_method_49_code 45 = .ok (.iushr, 1) := by decide +kernel
theorem d_Integer_bitCount_46 : decode prog_28_method_49_code 46 = .ok (.iadd, 1) := by decide +kernel
theorem d_Integer_bitCount_47 : decode prog_28_method_49_code 47 = .ok (.istore_n 0, 1) := by decide +kernel
theorem d_Integer_bitCount_48 : decode prog_28_method_49_code 48 = .ok (.iload_n 0, 1) := by decide +kernel
theorem d_Integer_bitCount_49 : decode prog_28_method_49_code 49 = .ok (.bipush 63, 2) := by decide +kernel
theorem d_Integer_bitCount_51 : decode prog_28_method_49_code 51 = .ok (.iand, 1) := by decide +kernel
theorem d_Integer_bitCount_52 : decode prog_28_method_49_code 52 = .ok (.ireturn, 1) := by decide +kernel
set_option maxHeartbeats 4000000 in
set_option maxRecDepth 20000 in
theorem c_Integer_bitCount {P : xP} {F : xF} {z : Nat} {a : Nat}  (ha : a < 128) : xM P xy_Integer_bitCount [.int (nI (a))] F (z) 0 0 (fun r9 F9 z9 => r9 = some (.int (nI (popc a))) ∧ F9 = F ∧ z9 = z) := by
  refine xM_i .int (by decide +kernel) (Nat.le_of_ble_eq_true rfl) (L0 := [some (.int (nI (a)))]) rfl rfl fun Θ hC hret => ?_
  refine x_iload_n hC d_Integer_bitCount_0 rfl rfl ?_
  refine x_iload_n hC d_Integer_bitCount_1 rfl rfl ?_
  refine x_iconst hC d_Integer_bitCount_2 (v := nI 1) (by decide) ?_
  refine x_iushr hC d_Integer_bitCount_3 (v := (((nI (a)).toUInt32 >>> ((nI (1)).toUInt32 &&& Int32.toUInt32 31)).toInt32)) rfl ?_
  refine x_ldcw hC (v := nI 1431655765) (x_in (x_of (xtb_4 (List.mem_of_getElem? (i := 34) (by decide +kernel)))) (by decide +kernel)) d_Integer_bitCount_4 ?_
  refine x_iand hC d_Integer_bitCount_7 (v := ((((nI (a)).toUInt32 >>> ((nI (1)).toUInt32 &&& Int32.toUInt32 31)).toInt32) &&& (nI (1431655765)))) rfl ?_
  refine x_isub hC d_Integer_bitCount_8 (v := (bc1 (nI a))) rfl ?_
  refine x_istore_n hC d_Integer_bitCount_9 rfl (Nat.le_of_ble_eq_true rfl) (L1 := [some (.int (bc1 (nI a)))]) rfl ?_
  refine x_iload_n hC d_Integer_bitCount_10 rfl rfl ?_
  refine x_ldcw hC (v := nI 858993459) (x_in (x_of (xtb_4 (List.mem_of_getElem? (i := 35) (by decide +kernel)))) (by decide +kernel)) d_Integer_bitCount_11 ?_
  refine x_iand hC d_Integer_bitCount_14 (v := ((bc1 (nI a)) &&& (nI (858993459)))) rfl ?_
  refine x_iload_n hC d_Integer_bitCount_15 rfl rfl ?_
  refine x_iconst hC d_Integer_bitCount_16 (v := nI 2) (by decide) ?_
  refine x_iushr hC d_Integer_bitCount_17 (v := (((bc1 (nI a)).toUInt32 >>> ((nI (2)).toUInt32 &&& Int32.toUInt32 31)).toInt32)) rfl ?_
  refine x_ldcw hC (v := nI 858993459) (x_in (x_of (xtb_4 (List.mem_of_getElem? (i := 35) (by decide +kernel)))) (by decide +kernel)) d_Integer_bitCount_18 ?_
  refine x_iand hC d_Integer_bitCount_21 (v := ((((bc1 (nI a)).toUInt32 >>> ((nI (2)).toUInt32 &&& Int32.toUInt32 31)).toInt32) &&& (nI (858993459)))) rfl ?_
  refine x_iadd hC d_Integer_bitCount_22 (v := (bc2 (bc1 (nI a)))) rfl ?_
  refine x_istore_n hC d_Integer_bitCount_23 rfl (Nat.le_of_ble_eq_true rfl) (L1 := [some (.int (bc2 (bc1 (nI a))))]) rfl ?_
  refine x_iload_n hC d_Integer_bitCount_24 rfl rfl ?_
  refine x_iload_n hC d_Integer_bitCount_25 rfl rfl ?_
  refine x_iconst hC d_Integer_bitCount_26 (v := nI 4) (by decide) ?_
  refine x_iushr hC d_Integer_bitCount_27 (v := (((bc2 (bc1 (nI a))).toUInt32 >>> ((nI (4)).toUInt32 &&& Int32.toUInt32 31)).toInt32)) rfl ?_
  refine x_iadd hC d_Integer_bitCount_28 (v := ((bc2 (bc1 (nI a))) + (((bc2 (bc1 (nI a))).toUInt32 >>> ((nI (4)).toUInt32 &&& Int32.toUInt32 31)).toInt32))) rfl ?_
  refine x_ldcw hC (v := nI 252645135) (x_in (x_of (xtb_4 (List.mem_of_getElem? (i := 36) (by decide +kernel)))) (by decide +kernel)) d_Integer_bitCount_29 ?_
  refine x_iand hC d_Integer_bitCount_32 (v := (bc3 (bc2 (bc1 (nI a))))) rfl ?_
  refine x_istore_n hC d_Integer_bitCount_33 rfl (Nat.le_of_ble_eq_true rfl) (L1 := [some (.int (bc3 (bc2 (bc1 (nI a)))))]) rfl ?_
  refine x_iload_n hC d_Integer_bitCount_34 rfl rfl ?_
  refine x_iload_n hC d_Integer_bitCount_35 rfl rfl ?_
  refine x_bipush hC d_Integer_bitCount_36 (v := nI 8) (by decide) ?_
  refine x_iushr hC d_Integer_bitCount_38 (v := (((bc3 (bc2 (bc1 (nI a)))).toUInt32 >>> ((nI (8)).toUInt32 &&& Int32.toUInt32 31)).toInt32)) rfl ?_
  refine x_iadd hC d_Integer_bitCount_39 (v := (bc4 (bc3 (bc2 (bc1 (nI a)))))) rfl ?_
  refine x_istore_n hC d_Integer_bitCount_40 rfl (Nat.le_of_ble_eq_true rfl) (L1 := [some (.int (bc4 (bc3 (bc2 (bc1 (nI a))))))]) rfl ?_
  refine x_iload_n hC d_Integer_bitCount_41 rfl rfl ?_
  refine x_iload_n hC d_Integer_bitCount_42 rfl rfl ?_
  refine x_bipush hC d_Integer_bitCount_43 (v := nI 16) (by decide) ?_
  refine x_iushr hC d_Integer_bitCount_45 (v := (((bc4 (bc3 (bc2 (bc1 (nI a))))).toUInt32 >>> ((nI (16)).toUInt32 &&& Int32.toUInt32 31)).toInt32)) rfl ?_
  refine x_iadd hC d_Integer_bitCount_46 (v := (bc5 (bc4 (bc3 (bc2 (bc1 (nI a))))))) rfl ?_
  refine x_istore_n hC d_Integer_bitCount_47 rfl (Nat.le_of_ble_eq_true rfl) (L1 := [some (.int (bc5 (bc4 (bc3 (bc2 (bc1 (nI a)))))))]) rfl ?_
  refine x_iload_n hC d_Integer_bitCount_48 rfl rfl ?_
  refine x_bipush hC d_Integer_bitCount_49 (v := nI 63) (by decide) ?_
  refine x_iand hC d_Integer_bitCount_51 (v := ((bc5 (bc4 (bc3 (bc2 (bc1 (nI a)))))) &&& (nI (63)))) rfl ?_
  exact hret _ _ _ _ _ _ _ d_Integer_bitCount_52 (by decide) (by decide) rfl (⟨congrArg (fun q => some (Value.int q)) (bc_all a ha), rfl, rfl⟩)

theorem d_Bits_remainderByTable_0 : decode prog_3_method_7_code 0 = .ok (.iconst 0, 1) := by decide +kernel
theorem d_Bits_remainderByTable_1 : decode prog_3_method_7_code 1 = .ok (.istore_n 1, 1) := by decide +kernel
theorem d_Bits_remainderByTable_2 : decode prog_3_method_7_code 2 = .ok (.aload_n 0, 1) := by decide +kernel
theorem d_Bits_remainderByTable_3 : decode prog_3_method_7_code 3 = .ok (.getfield 15, 3) := by decide +kernel
theorem d_Bits_remainderByTable_6 : decode prog_3_method_7_code 6 = .ok (.ineg, 1) := by decide +kernel
theorem d_Bits_remainderByTable_7 : decode prog_3_method_7_code 7 = .ok (.iconst 4, 1) := by decide +kernel
theorem d_Bits_remainderByTable_8 : decode prog_3_method_7_code 8 = .ok (.invokestatic 42, 3) := by decide +kernel
theorem d_Bits_remainderByTable_11 : decode prog_3_method_7_code 11 = .ok (.istore_n 2, 1) := by decide +kernel
theorem d_Bits_remainderByTable_12 : decode prog_3_method_7_code 12 = .ok (.iload_n 2, 1) := by decide +kernel
theorem d_Bits_remainderByTable_13 : decode prog_3_method_7_code 13 = .ok (.ineg, 1) := by decide +kernel
theorem d_Bits_remainderByTable_14 : decode prog_3_method_7_code 14 = .ok (.istore_n 3, 1) := by decide +kernel
theorem d_Bits_remainderByTable_15 : decode prog_3_method_7_code 15 = .ok (.iload_n 3, 1) := by decide +kernel
theorem d_Bits_remainderByTable_16 : decode prog_3_method_7_code 16 = .ok (.aload_n 0, 1) := by decide +kernel
theorem d_Bits_remainderByTable_17 : decode prog_3_method_7_code 17 = .ok (.getfield 15, 3) := by decide +kernel
theorem d_Bits_remainderByTable_20 : decode prog_3_method_7_code 20 = .ok (.if_icmp .ge 24, 3) := by decide +kernel
theorem d_Bits_remainderByTable_23 : decode prog_3_method_7_code 23 = .ok (.getstatic 48, 3) := by decide +kernel
theorem d_Bits_remainderByTable_26 : decode prog_3_method_7_code 26 = .ok (.iload_n 1, 1) := by decide +kernel
theorem d_Bits_remainderByTable_27 : decode prog_3_method_7_code 27 = .ok (.aload_n 0, 1) := by decide +kernel
theorem d_Bits_remainderByTable_28 : decode prog_3_method_7_code 28 = .ok (.iload_n 3, 1) := by decide +kernel
theorem d_Bits_remainderByTable_29 : decode prog_3_method_7_code 29 = .ok (.invokevirtual 51, 3) := by decide +kernel
theorem d_Bits_remainderByTable_32 : decode prog_3_method_7_code 32 = .ok (.ixor, 1) := by decide +kernel
theorem d_Bits_remainderByTable_33 : decode prog_3_method_7_code 33 = .ok (.bipush 15, 2) := by decide +kernel
theorem d_Bits_remainderByTable_35 : decode prog_3_method_7_code 35 = .ok (.iand, 1) := by decide +kernel
theorem d_Bits_remainderByTable_36 : decode prog_3_method_7_code 36 = .ok (.iaload, 1) := by decide +kernel
theorem d_Bits_remainderByTable_37 : decode prog_3_method_7_code 37 = .ok (.istore_n 1, 1) := by decide +kernel
theorem d_Bits_remainderByTable_38 : decode prog_3_method_7_code 38 = .ok (.iinc 3 4, 3) := by decide +kernel
theorem d_Bits_remainderByTable_41 : decode prog_3_method_7_code 41 = .ok (.goto (-26), 3) := by decide +kernel
theorem d_Bits_remainderByTable_44 : decode prog_3_method_7_code 44 = .ok (.iload_n 1, 1) := by decide +kernel
theorem d_Bits_remainderByTable_45 : decode prog_3_method_7_code 45 = .ok (.ireturn, 1) := by decide +kernel
set_option maxHeartbeats 4000000 in
set_option maxRecDepth 20000 in
theorem c_Bits_remainderByTable {P : xP} {F : xF} {z : Nat} {b : Nat} {n : Nat} {f : Nat → Nat} {rt : Nat} (hb : xBt F (b) (n) (f)) (hSR : xSR P rt) : xM P xy_Bits_remainderByTable [.ref b] F (z) 0 0 (fun r9 F9 z9 => r9 = some (.int (nI (crcB n f (n + 4)))) ∧ F9 = F ∧ z9 = z) := by
  refine xM_i .int rfl (Nat.le_of_ble_eq_true rfl) (L0 := [some (.ref b), none, none, none]) rfl rfl fun Θ hC hret => ?_
  have hn := hb.2.1
  have hf := hb.2.2.1
  refine x_iconst hC d_Bits_remainderByTable_0 (v := nI 0) (by decide) ?_
  refine x_istore_n hC d_Bits_remainderByTable_1 rfl (Nat.le_of_ble_eq_true rfl) (L1 := [some (.ref b), some (.int (nI 0)), none, none]) rfl ?_
  refine x_aload_n hC d_Bits_remainderByTable_2 rfl rfl ?_
  refine x_getf hC kf_Bits_15 hb.1 rfl d_Bits_remainderByTable_3 ?_
  refine x_ineg hC d_Bits_remainderByTable_6 (v := (-(nI (n)))) rfl ?_
  refine x_iconst hC d_Bits_remainderByTable_7 (v := nI 4) (by decide) ?_
  refine x_callS hC ks_Bits_42 (c_Math_floorMod (hy := by decide)) (by decide) rfl rfl rfl (Nat.le_of_ble_eq_true rfl) (by decide) d_Bits_remainderByTable_8 (fun r9 F9 z9 hp9 => ?_)
  obtain ⟨rfl, h9b, h9c⟩ := hp9
  rw [h9b, h9c]
  clear h9b h9c F9 z9
  refine x_top (v := (nI ((4 - n % 4) % 4))) (fmJ_n4 n hn) ?_
  refine x_istore_n hC d_Bits_remainderByTable_11 rfl (Nat.le_of_ble_eq_true rfl) (L1 := [some (.ref b), some (.int (nI 0)), some (.int (nI ((4 - n % 4) % 4))), none]) rfl ?_
  refine x_iload_n hC d_Bits_remainderByTable_12 rfl rfl ?_
  refine x_ineg hC d_Bits_remainderByTable_13 (v := (nI 0 - nI ((4 - n % 4) % 4))) (x_neg _) ?_
  refine x_istore_n hC d_Bits_remainderByTable_14 rfl (Nat.le_of_ble_eq_true rfl) (L1 := [some (.ref b), some (.int (nI 0)), some (.int (nI ((4 - n % 4) % 4))), some (.int (nI 0 - nI ((4 - n % 4) % 4)))]) rfl ?_
  have loop_15 : ∀ (m9 : Nat) (q : Nat) (r : Nat), (xBt F (b) (n) (f)) → (q % 4 = 0 ∧ q ≤ (4 - n % 4) % 4 + n) → (r = z4 (crcZ n f ((4 - n % 4) % 4) q)) → (n + 4 - q < m9) → xX P Θ 15 [some (.ref b), some (.int (nI (r))), some (.int (nI ((4 - n % 4) % 4))), some (.int (nI q - nI ((4 - n % 4) % 4)))] [] F (z) 0 0 := by
    intro m9
    induction m9 with
    | zero => intros; omega
    | succ m9 ih_15 =>
      intro  q r hb hq9 kr hm_15
      have hr15 : r ≤ 15 := by rw [kr]; exact z4_le (crcZ_le hf _ q)
      refine x_iload_n hC d_Bits_remainderByTable_15 rfl rfl ?_
      refine x_aload_n hC d_Bits_remainderByTable_16 rfl rfl ?_
      refine x_getf hC kf_Bits_15 hb.1 rfl d_Bits_remainderByTable_17 ?_
      refine x_icmp_ge hC d_Bits_remainderByTable_20 (tgt := 44) (by decide) (fun c_20 => ?_) (fun c_20 => ?_)
      · skip
        refine x_iload_n hC d_Bits_remainderByTable_44 rfl rfl ?_
        refine hret _ _ _ _ _ _ _ d_Bits_remainderByTable_45 (by decide) (by decide) rfl ?_
        have hqe : (4 - n % 4) % 4 + n = q := by have := (x_suble (by omega) (by omega) (by omega)).mp c_20; omega
        exact ⟨by rw [kr, ← hqe, crcZ_B, crcB_n4], rfl, rfl⟩
      · skip
        have hql := Nat.lt_of_not_le (fun e => c_20 ((x_suble (by omega) (by omega) (by omega)).mpr e))
        refine x_getsN hC (host := "MessageCoder") (v := .ref rt) hSR.1 (x_inN (xtb_3 (List.mem_of_getElem? (i := 175) (by decide +kernel))) (by decide +kernel)) d_Bits_remainderByTable_23 ?_
        refine x_iload_n hC d_Bits_remainderByTable_26 rfl rfl ?_
        refine x_aload_n hC d_Bits_remainderByTable_27 rfl rfl ?_
        refine x_iload_n hC d_Bits_remainderByTable_28 rfl rfl ?_
        refine x_callV hC kv_Bits_51 (c_Bits_fourFrom (hb := hb) (hq := by omega) (hlz := by omega) (q := q) (lz := (4 - n % 4) % 4)) hb.1 rfl rfl (by decide) rfl rfl rfl (Nat.le_of_ble_eq_true rfl) (by decide) d_Bits_remainderByTable_29 (fun r9 F9 z9 hp9 => ?_)
        obtain ⟨rfl, h9b, h9c⟩ := hp9
        rw [h9b, h9c]
        clear h9b h9c F9 z9
        have h4 := fourB_le hf ((4 - n % 4) % 4) q
        refine x_ixor hC d_Bits_remainderByTable_32 (v := (nI (r ^^^ fourB n f ((4 - n % 4) % 4) q))) (x_xorN _ _) ?_
        refine x_bipush hC d_Bits_remainderByTable_33 (v := nI 15) (by decide) ?_
        have h16 : r ^^^ fourB n f ((4 - n % 4) % 4) q < 2 ^ 4 := Nat.xor_lt_two_pow (by omega) (by omega)
        refine x_iand hC d_Bits_remainderByTable_35 (v := (nI ((r ^^^ fourB n f ((4 - n % 4) % 4) q) % 16))) (x_and15 (by omega)) ?_
        refine x_sti hC hSR.2 (j := (r ^^^ fourB n f ((4 - n % 4) % 4) q) % 16) ⟨rfl, by omega, by decide⟩ (x := (nI (remT ((r ^^^ fourB n f ((4 - n % 4) % 4) q) % 16)))) rfl d_Bits_remainderByTable_36 ?_
        refine x_istore_n hC d_Bits_remainderByTable_37 rfl (Nat.le_of_ble_eq_true rfl) (L1 := [some (.ref b), some (.int (nI (remT ((r ^^^ fourB n f ((4 - n % 4) % 4) q) % 16)))), some (.int (nI ((4 - n % 4) % 4))), some (.int (nI q - nI ((4 - n % 4) % 4)))]) rfl ?_
        refine x_iinc hC d_Bits_remainderByTable_38 rfl (v := (nI (q + 4) - nI ((4 - n % 4) % 4))) (x_subadd _ _ 4) (Nat.le_of_ble_eq_true rfl) (L1 := [some (.ref b), some (.int (nI (remT ((r ^^^ fourB n f ((4 - n % 4) % 4) q) % 16)))), some (.int (nI ((4 - n % 4) % 4))), some (.int (nI (q + 4) - nI ((4 - n % 4) % 4)))]) rfl ?_
        refine x_goto hC d_Bits_remainderByTable_41 (tgt := 15) (by decide) ?_
        exact ih_15  (q + 4) (remT ((r ^^^ fourB n f ((4 - n % 4) % 4) q) % 16)) hb (by omega) (by rw [kr]; exact tab_step hf _ q) (by omega)
  exact loop_15 (n + 4 - 0 + 1)  (0) (0) hb (by omega) (rfl) (by omega)

