/-- a code's cells: weights, lengths, values, order, the groups' row and their weights, the sum -/
def xAr (F : xF) (a n : Nat) (f : Nat → Nat) : Prop := ∃ g : Nat → Nat, F a = some (.inr (0, n, fun b9 => .int (nI (g b9)))) ∧ ∀ j, j < n → g j = f j
theorem xAr_fr {F F1 : xF} {a n : Nat} {f : Nat → Nat} (h : xAr F a n f) (hf : F1 a = F a) : xAr F1 a n f := by
  obtain ⟨g, h1, h2⟩ := h
  exact ⟨g, hf.trans h1, h2⟩
theorem xAr_ext {F : xF} {a n : Nat} {f f2 : Nat → Nat} (h : xAr F a n f) (hf : ∀ j, j < n → f j = f2 j) : xAr F a n f2 := by
  obtain ⟨g, h1, h2⟩ := h
  exact ⟨g, h1, fun j hj => (h2 j hj).trans (hf j hj)⟩
abbrev xCo (c js : Nat) : List Value := [.ref (c + 1), .ref (c + 2), .ref (c + 3), .ref (c + 4), .ref (c + 5), .ref (c + 6), .int (nI js)]
def xCb (w ln vl od : Nat → Nat) (js : Nat) : Prop := (∀ j, j < 8 → w j ≤ 99 ∧ ln j ≤ 7 ∧ vl j < 2000 ∧ od j < 8) ∧ js < 100000
def xCd (F : xF) (c : Nat) (w ln vl od : Nat → Nat) (js : Nat) : Prop := F c = some (.inl (1, xCo c js)) ∧ xAr F (c + 1) 8 w ∧ xAr F (c + 2) 8 ln ∧ xAr F (c + 3) 8 vl ∧ xAr F (c + 4) 8 od ∧ (∃ g5, xAr F (c + 5) 8 g5) ∧ (∃ g6, xAr F (c + 6) 8 g6) ∧ xCb w ln vl od js
theorem xCd_fr {F F1 : xF} {c : Nat} {w ln vl od : Nat → Nat} {js : Nat} (h : xCd F c w ln vl od js) (hf : ∀ a, c ≤ a → a < c + 7 → F1 a = F a) : xCd F1 c w ln vl od js := by
  obtain ⟨h0, h1, h2, h3, h4, ⟨g5, h5⟩, ⟨g6, h6⟩, hb⟩ := h
  exact ⟨(hf _ (by omega) (by omega)).trans h0, xAr_fr h1 (hf _ (by omega) (by omega)), xAr_fr h2 (hf _ (by omega) (by omega)), xAr_fr h3 (hf _ (by omega) (by omega)), xAr_fr h4 (hf _ (by omega) (by omega)), ⟨g5, xAr_fr h5 (hf _ (by omega) (by omega))⟩, ⟨g6, xAr_fr h6 (hf _ (by omega) (by omega))⟩, hb⟩
/-- of the length of a code, by the symbol's sign -/
def lenF (ln : Nat → Nat) (c : Nat) : Nat := if 97 ≤ c ∧ c < 105 then ln (c - 97) else 0
def bitsN (ln s : Nat → Nat) : Nat → Nat
  | 0 => 0
  | n + 1 => bitsN ln s n + lenF ln (s n)
theorem lenF_le {ln : Nat → Nat} (h : ∀ j, j < 8 → ln j ≤ 7) (c : Nat) : lenF ln c ≤ 7 := by
  unfold lenF
  split
  · exact h _ (by omega)
  · omega
theorem bitsN_le {ln : Nat → Nat} (h : ∀ j, j < 8 → ln j ≤ 7) (s : Nat → Nat) : ∀ n, bitsN ln s n ≤ 7 * n
  | 0 => Nat.le_refl 0
  | n + 1 => by
    have h1 := bitsN_le h s n
    have h2 := lenF_le h (s n)
    unfold bitsN
    omega
def maxN (f : Nat → Nat) : Nat → Nat
  | 0 => 0
  | k + 1 => if maxN f k < f k then f k else maxN f k
theorem maxN_le {f : Nat → Nat} {c : Nat} : ∀ k, (∀ j, j < k → f j ≤ c) → maxN f k ≤ c
  | 0, _ => Nat.zero_le _
  | k + 1, h => by
    have h1 := maxN_le k (fun j hj => h j (by omega))
    have h2 := h k (by omega)
    unfold maxN
    split <;> omega
/-- the first symbol with this length and value; 8: none -/
def symF (ln vl : Nat → Nat) (v l : Nat) : Nat → Nat
  | 0 => 8
  | k + 1 => if symF ln vl v l k < 8 then symF ln vl v l k else if ln k = l ∧ vl k = v then k else 8
theorem symF_ge (ln vl : Nat → Nat) (v l : Nat) : ∀ k, k ≤ 8 → symF ln vl v l k = 8 ∨ symF ln vl v l k < k
  | 0, _ => Or.inl rfl
  | k + 1, h => by
    have h1 := symF_ge ln vl v l k (by omega)
    unfold symF
    split
    · omega
    · split <;> omega
theorem symF_first {ln vl : Nat → Nat} {v l i : Nat} (hi : i < 8) (h1 : ln i = l ∧ vl i = v) (h0 : ∀ j, j < i → ¬ (ln j = l ∧ vl j = v)) : symF ln vl v l 8 = i := by
  have a : ∀ k, k ≤ i → symF ln vl v l k = 8 := by
    intro k
    induction k with
    | zero => intro _; rfl
    | succ k ih =>
      intro hk
      unfold symF
      rw [ih (by omega), if_neg (by omega), if_neg (h0 k (by omega))]
  have b : ∀ k, i < k → k ≤ 8 → symF ln vl v l k = i := by
    intro k
    induction k with
    | zero => intro h _; omega
    | succ k ih =>
      intro hk hk8
      unfold symF
      by_cases e : i = k
      · subst e
        rw [a i (by omega), if_neg (by omega), if_pos h1]
      · rw [ih (by omega) (by omega), if_pos hi]
  exact b 8 (by omega) (by omega)
theorem symF_none {ln vl : Nat → Nat} {v l : Nat} (h0 : ∀ j, j < 8 → ¬ (ln j = l ∧ vl j = v)) : ∀ k, k ≤ 8 → symF ln vl v l k = 8
  | 0, _ => rfl
  | k + 1, h => by
    unfold symF
    rw [symF_none h0 k (by omega), if_neg (by omega), if_neg (h0 k (by omega))]
/-- the giving of values: rank, next, values, order -/
abbrev hV : Type := Nat × Nat × (Nat → Nat) × (Nat → Nat)
def hVi (ln : Nat → Nat) (l : Nat) : Nat → hV → hV
  | 0, v => v
  | k + 1, v => if ln k = l ∧ (hVi ln l k v).1 < 8 then ((hVi ln l k v).1 + 1, (hVi ln l k v).2.1 + 1, updN (hVi ln l k v).2.2.1 k (hVi ln l k v).2.1, updN (hVi ln l k v).2.2.2 (hVi ln l k v).1 k) else hVi ln l k v
def hVo (ln v0 o0 : Nat → Nat) : Nat → hV
  | 0 => (0, 0, v0, o0)
  | t + 1 => hVi ln (t + 1) 8 ((hVo ln v0 o0 t).1, (hVo ln v0 o0 t).2.1 * 2, (hVo ln v0 o0 t).2.2.1, (hVo ln v0 o0 t).2.2.2)

theorem d_MessageCoder_isSymbol_0 : decode prog_1_method_64_code 0 = .ok (.iload_n 0, 1) := by decide +kernel
theorem d_MessageCoder_isSymbol_1 : decode prog_1_method_64_code 1 = .ok (.bipush 97, 2) := by decide +kernel
theorem d_MessageCoder_isSymbol_3 : decode prog_1_method_64_code 3 = .ok (.if_icmp .lt 13, 3) := by decide +kernel
theorem d_MessageCoder_isSymbol_6 : decode prog_1_method_64_code 6 = .ok (.iload_n 0, 1) := by decide +kernel
theorem d_MessageCoder_isSymbol_7 : decode prog_1_method_64_code 7 = .ok (.bipush 105, 2) := by decide +kernel
theorem d_MessageCoder_isSymbol_9 : decode prog_1_method_64_code 9 = .ok (.if_icmp .ge 7, 3) := by decide +kernel
theorem d_MessageCoder_isSymbol_12 : decode prog_1_method_64_code 12 = .ok (.iconst 1, 1) := by decide +kernel
theorem d_MessageCoder_isSymbol_13 : decode prog_1_method_64_code 13 = .ok (.goto 4, 3) := by decide +kernel
theorem d_MessageCoder_isSymbol_16 : decode prog_1_method_64_code 16 = .ok (.iconst 0, 1) := by decide +kernel
theorem d_MessageCoder_isSymbol_17 : decode prog_1_method_64_code 17 = .ok (.ireturn, 1) := by decide +kernel
set_option maxHeartbeats 4000000 in
set_option maxRecDepth 20000 in
theorem c_MessageCoder_isSymbol {P : xP} {F : xF} {z : Nat} {c : Nat}  (hcb : c < 2 ^ 31) : xM P xy_MessageCoder_isSymbol [.int (nI (c))] F (z) 0 0 (fun r9 F9 z9 => r9 = some (.int (xb (97 ≤ c ∧ c < 105))) ∧ F9 = F ∧ z9 = z) := by
  refine xM_i .boolean rfl (Nat.le_of_ble_eq_true rfl) (L0 := [some (.int (nI (c)))]) rfl rfl fun Θ hC hret => ?_
  refine x_iload_n hC d_MessageCoder_isSymbol_0 rfl rfl ?_
  refine x_bipush hC d_MessageCoder_isSymbol_1 (v := nI 97) (by decide) ?_
  refine x_icmpN_lt hC d_MessageCoder_isSymbol_3 (tgt := 16) (by decide) (by omega) (by omega) (fun c_3 => ?_) (fun c_3 => ?_)
  · skip
    refine x_iconst hC d_MessageCoder_isSymbol_16 (v := nI 0) (by decide) ?_
    exact hret _ _ _ _ _ _ _ d_MessageCoder_isSymbol_17 (by decide) (by decide) rfl (⟨congrArg (fun q => some (Value.int q)) (xb_f0 (by omega)), rfl, rfl⟩)
  · skip
    refine x_iload_n hC d_MessageCoder_isSymbol_6 rfl rfl ?_
    refine x_bipush hC d_MessageCoder_isSymbol_7 (v := nI 105) (by decide) ?_
    refine x_icmpN_ge hC d_MessageCoder_isSymbol_9 (tgt := 16) (by decide) (by omega) (by omega) (fun c_9 => ?_) (fun c_9 => ?_)
    · skip
      refine x_iconst hC d_MessageCoder_isSymbol_16 (v := nI 0) (by decide) ?_
      exact hret _ _ _ _ _ _ _ d_MessageCoder_isSymbol_17 (by decide) (by decide) rfl (⟨congrArg (fun q => some (Value.int q)) (xb_f0 (by omega)), rfl, rfl⟩)
    · skip
      refine x_iconst hC d_MessageCoder_isSymbol_12 (v := nI 1) (by decide) ?_
      refine x_goto hC d_MessageCoder_isSymbol_13 (tgt := 17) (by decide) ?_
      exact hret _ _ _ _ _ _ _ d_MessageCoder_isSymbol_17 (by decide) (by decide) rfl (⟨congrArg (fun q => some (Value.int q)) (xb_t1 (by omega)), rfl, rfl⟩)

theorem d_MessageCoder_isPriority_0 : decode prog_1_method_65_code 0 = .ok (.iload_n 0, 1) := by decide +kernel
theorem d_MessageCoder_isPriority_1 : decode prog_1_method_65_code 1 = .ok (.iconst 1, 1) := by decide +kernel
theorem d_MessageCoder_isPriority_2 : decode prog_1_method_65_code 2 = .ok (.if_icmp .lt 12, 3) := by decide +kernel
theorem d_MessageCoder_isPriority_5 : decode prog_1_method_65_code 5 = .ok (.iload_n 0, 1) := by decide +kernel
theorem d_MessageCoder_isPriority_6 : decode prog_1_method_65_code 6 = .ok (.iconst 5, 1) := by decide +kernel
theorem d_MessageCoder_isPriority_7 : decode prog_1_method_65_code 7 = .ok (.if_icmp .gt 7, 3) := by decide +kernel
theorem d_MessageCoder_isPriority_10 : decode prog_1_method_65_code 10 = .ok (.iconst 1, 1) := by decide +kernel
theorem d_MessageCoder_isPriority_11 : decode prog_1_method_65_code 11 = .ok (.goto 4, 3) := by decide +kernel
theorem d_MessageCoder_isPriority_14 : decode prog_1_method_65_code 14 = .ok (.iconst 0, 1) := by decide +kernel
theorem d_MessageCoder_isPriority_15 : decode prog_1_method_65_code 15 = .ok (.ireturn, 1) := by decide +kernel
set_option maxHeartbeats 4000000 in
set_option maxRecDepth 20000 in
theorem c_MessageCoder_isPriority {P : xP} {F : xF} {z : Nat} {p : Int32}   : xM P xy_MessageCoder_isPriority [.int p] F (z) 0 0 (fun r9 F9 z9 => r9 = some (.int (xb (1 ≤ p ∧ p ≤ 5))) ∧ F9 = F ∧ z9 = z) := by
  refine xM_i .boolean rfl (Nat.le_of_ble_eq_true rfl) (L0 := [some (.int p)]) rfl rfl fun Θ hC hret => ?_
  refine x_iload_n hC d_MessageCoder_isPriority_0 rfl rfl ?_
  refine x_iconst hC d_MessageCoder_isPriority_1 (v := 1) (by decide) ?_
  refine x_icmp_lt hC d_MessageCoder_isPriority_2 (tgt := 14) (by decide) (fun c_2 => ?_) (fun c_2 => ?_)
  · skip
    refine x_iconst hC d_MessageCoder_isPriority_14 (v := nI 0) (by decide) ?_
    exact hret _ _ _ _ _ _ _ d_MessageCoder_isPriority_15 (by decide) (by decide) rfl (⟨congrArg (fun q => some (Value.int q)) (xb_f0 (fun h9 => k2_nle c_2 h9.1)), rfl, rfl⟩)
  · skip
    refine x_iload_n hC d_MessageCoder_isPriority_5 rfl rfl ?_
    refine x_iconst hC d_MessageCoder_isPriority_6 (v := 5) (by decide) ?_
    refine x_icmp_gt hC d_MessageCoder_isPriority_7 (tgt := 14) (by decide) (fun c_7 => ?_) (fun c_7 => ?_)
    · skip
      refine x_iconst hC d_MessageCoder_isPriority_14 (v := nI 0) (by decide) ?_
      exact hret _ _ _ _ _ _ _ d_MessageCoder_isPriority_15 (by decide) (by decide) rfl (⟨congrArg (fun q => some (Value.int q)) (xb_f0 (fun h9 => k2_nle c_7 h9.2)), rfl, rfl⟩)
    · skip
      refine x_iconst hC d_MessageCoder_isPriority_10 (v := nI 1) (by decide) ?_
      refine x_goto hC d_MessageCoder_isPriority_11 (tgt := 15) (by decide) ?_
      exact hret _ _ _ _ _ _ _ d_MessageCoder_isPriority_15 (by decide) (by decide) rfl (⟨congrArg (fun q => some (Value.int q)) (xb_t1 ⟨k2_le c_2, k2_le c_7⟩), rfl, rfl⟩)

theorem d_Code_lengthFor_0 : decode prog_4_method_11_code 0 = .ok (.iload_n 1, 1) := by decide +kernel
theorem d_Code_lengthFor_1 : decode prog_4_method_11_code 1 = .ok (.invokestatic 60, 3) := by decide +kernel
theorem d_Code_lengthFor_4 : decode prog_4_method_11_code 4 = .ok (.ifCond .eq 15, 3) := by decide +kernel
theorem d_Code_lengthFor_7 : decode prog_4_method_11_code 7 = .ok (.aload_n 0, 1) := by decide +kernel
theorem d_Code_lengthFor_8 : decode prog_4_method_11_code 8 = .ok (.getfield 15, 3) := by decide +kernel
theorem d_Code_lengthFor_11 : decode prog_4_method_11_code 11 = .ok (.iload_n 1, 1) := by decide +kernel
theorem d_Code_lengthFor_12 : decode prog_4_method_11_code 12 = .ok (.bipush 97, 2) := by decide +kernel
theorem d_Code_lengthFor_14 : decode prog_4_method_11_code 14 = .ok (.isub, 1) := by decide +kernel
theorem d_Code_lengthFor_15 : decode prog_4_method_11_code 15 = .ok (.iaload, 1) := by decide +kernel
theorem d_Code_lengthFor_16 : decode prog_4_method_11_code 16 = .ok (.goto 4, 3) := by decide +kernel
theorem d_Code_lengthFor_19 : decode prog_4_method_11_code 19 = .ok (.iconst 0, 1) := by decide +kernel
theorem d_Code_lengthFor_20 : decode prog_4_method_11_code 20 = .ok (.ireturn, 1) := by decide +kernel
set_option maxHeartbeats 4000000 in
set_option maxRecDepth 20000 in
theorem c_Code_lengthFor {P : xP} {F : xF} {z : Nat} {c : Nat} {w : Nat → Nat} {ln : Nat → Nat} {vl : Nat → Nat} {od : Nat → Nat} {js : Nat} {s : Nat} (hc : xCd F (c) (w) (ln) (vl) (od) (js)) (hs : s < 2 ^ 31) : xM P xy_Code_lengthFor [.ref c, .int (nI (s))] F (z) 0 0 (fun r9 F9 z9 => r9 = some (.int (nI (lenF ln s))) ∧ F9 = F ∧ z9 = z) := by
  refine xM_i .int rfl (Nat.le_of_ble_eq_true rfl) (L0 := [some (.ref c), some (.int (nI (s)))]) rfl rfl fun Θ hC hret => ?_
  obtain ⟨h0, ⟨g1, h1, k1⟩, ⟨g2, h2, k2⟩, ⟨g3, h3, k3⟩, ⟨g4, h4, k4⟩, ⟨g5x, g5, h5, k5⟩, ⟨g6x, g6, h6, k6⟩, hbd, hjs⟩ := id hc
  refine x_iload_n hC d_Code_lengthFor_0 rfl rfl ?_
  refine x_callS hC ks_Code_60 (c_MessageCoder_isSymbol (hcb := by omega)) (by decide) rfl rfl rfl (Nat.le_of_ble_eq_true rfl) (by decide) d_Code_lengthFor_1 (fun r9 F9 z9 hp9 => ?_)
  obtain ⟨rfl, h9b, h9c⟩ := hp9
  rw [h9b, h9c]
  clear h9b h9c F9 z9
  refine x_ifB_eq hC d_Code_lengthFor_4 (tgt := 19) (by decide) (fun c_4 => ?_) (fun c_4 => ?_)
  · skip
    refine x_iconst hC d_Code_lengthFor_19 (v := nI 0) (by decide) ?_
    exact hret _ _ _ _ _ _ _ d_Code_lengthFor_20 (by decide) (by decide) rfl (⟨congrArg (fun q => some (Value.int (nI q))) ((if_neg c_4).symm), rfl, rfl⟩)
  · skip
    refine x_aload_n hC d_Code_lengthFor_7 rfl rfl ?_
    refine x_getf hC kf_Code_15 h0 rfl d_Code_lengthFor_8 ?_
    refine x_iload_n hC d_Code_lengthFor_11 rfl rfl ?_
    refine x_bipush hC d_Code_lengthFor_12 (v := nI 97) (by decide) ?_
    refine x_isub hC d_Code_lengthFor_14 (v := (nI ((s) - 97))) (pk_sub (by omega)) ?_
    refine x_iald hC h2 (j := (s) - 97) ⟨rfl, by omega, by omega⟩ (x := nI (g2 ((s) - 97))) rfl d_Code_lengthFor_15 ?_
    refine x_goto hC d_Code_lengthFor_16 (tgt := 20) (by decide) ?_
    exact hret _ _ _ _ _ _ _ d_Code_lengthFor_20 (by decide) (by decide) rfl (⟨congrArg (fun q => some (Value.int (nI q))) ((k2 _ (by omega)).trans (if_pos c_4).symm), rfl, rfl⟩)

theorem d_Code_valueFor_0 : decode prog_4_method_12_code 0 = .ok (.iload_n 1, 1) := by decide +kernel
theorem d_Code_valueFor_1 : decode prog_4_method_12_code 1 = .ok (.invokestatic 60, 3) := by decide +kernel
theorem d_Code_valueFor_4 : decode prog_4_method_12_code 4 = .ok (.ifCond .eq 15, 3) := by decide +kernel
theorem d_Code_valueFor_7 : decode prog_4_method_12_code 7 = .ok (.aload_n 0, 1) := by decide +kernel
theorem d_Code_valueFor_8 : decode prog_4_method_12_code 8 = .ok (.getfield 18, 3) := by decide +kernel
theorem d_Code_valueFor_11 : decode prog_4_method_12_code 11 = .ok (.iload_n 1, 1) := by decide +kernel
theorem d_Code_valueFor_12 : decode prog_4_method_12_code 12 = .ok (.bipush 97, 2) := by decide +kernel
theorem d_Code_valueFor_14 : decode prog_4_method_12_code 14 = .ok (.isub, 1) := by decide +kernel
theorem d_Code_valueFor_15 : decode prog_4_method_12_code 15 = .ok (.iaload, 1) := by decide +kernel
theorem d_Code_valueFor_16 : decode prog_4_method_12_code 16 = .ok (.goto 4, 3) := by decide +kernel
theorem d_Code_valueFor_19 : decode prog_4_method_12_code 19 = .ok (.iconst 0, 1) := by decide +kernel
theorem d_Code_valueFor_20 : decode prog_4_method_12_code 20 = .ok (.ireturn, 1) := by decide +kernel
set_option maxHeartbeats 4000000 in
set_option maxRecDepth 20000 in
theorem c_Code_valueFor {P : xP} {F : xF} {z : Nat} {c : Nat} {w : Nat → Nat} {ln : Nat → Nat} {vl : Nat → Nat} {od : Nat → Nat} {js : Nat} {s : Nat} (hc : xCd F (c) (w) (ln) (vl) (od) (js)) (hs : s < 2 ^ 31) : xM P xy_Code_valueFor [.ref c, .int (nI (s))] F (z) 0 0 (fun r9 F9 z9 => r9 = some (.int (nI (lenF vl s))) ∧ F9 = F ∧ z9 = z) := by
  refine xM_i .int rfl (Nat.le_of_ble_eq_true rfl) (L0 := [some (.ref c), some (.int (nI (s)))]) rfl rfl fun Θ hC hret => ?_
  obtain ⟨h0, ⟨g1, h1, k1⟩, ⟨g2, h2, k2⟩, ⟨g3, h3, k3⟩, ⟨g4, h4, k4⟩, ⟨g5x, g5, h5, k5⟩, ⟨g6x, g6, h6, k6⟩, hbd, hjs⟩ := id hc
  refine x_iload_n hC d_Code_valueFor_0 rfl rfl ?_
  refine x_callS hC ks_Code_60 (c_MessageCoder_isSymbol (hcb := by omega)) (by decide) rfl rfl rfl (Nat.le_of_ble_eq_true rfl) (by decide) d_Code_valueFor_1 (fun r9 F9 z9 hp9 => ?_)
  obtain ⟨rfl, h9b, h9c⟩ := hp9
  rw [h9b, h9c]
  clear h9b h9c F9 z9
  refine x_ifB_eq hC d_Code_valueFor_4 (tgt := 19) (by decide) (fun c_4 => ?_) (fun c_4 => ?_)
  · skip
    refine x_iconst hC d_Code_valueFor_19 (v := nI 0) (by decide) ?_
    exact hret _ _ _ _ _ _ _ d_Code_valueFor_20 (by decide) (by decide) rfl (⟨congrArg (fun q => some (Value.int (nI q))) ((if_neg c_4).symm), rfl, rfl⟩)
  · skip
    refine x_aload_n hC d_Code_valueFor_7 rfl rfl ?_
    refine x_getf hC kf_Code_18 h0 rfl d_Code_valueFor_8 ?_
    refine x_iload_n hC d_Code_valueFor_11 rfl rfl ?_
    refine x_bipush hC d_Code_valueFor_12 (v := nI 97) (by decide) ?_
    refine x_isub hC d_Code_valueFor_14 (v := (nI ((s) - 97))) (pk_sub (by omega)) ?_
    refine x_iald hC h3 (j := (s) - 97) ⟨rfl, by omega, by omega⟩ (x := nI (g3 ((s) - 97))) rfl d_Code_valueFor_15 ?_
    refine x_goto hC d_Code_valueFor_16 (tgt := 20) (by decide) ?_
    exact hret _ _ _ _ _ _ _ d_Code_valueFor_20 (by decide) (by decide) rfl (⟨congrArg (fun q => some (Value.int (nI q))) ((k3 _ (by omega)).trans (if_pos c_4).symm), rfl, rfl⟩)

theorem d_Code_weightSum_0 : decode prog_4_method_8_code 0 = .ok (.iconst 0, 1) := by decide +kernel
theorem d_Code_weightSum_1 : decode prog_4_method_8_code 1 = .ok (.istore_n 1, 1) := by decide +kernel
theorem d_Code_weightSum_2 : decode prog_4_method_8_code 2 = .ok (.iconst 0, 1) := by decide +kernel
theorem d_Code_weightSum_3 : decode prog_4_method_8_code 3 = .ok (.istore_n 2, 1) := by decide +kernel
theorem d_Code_weightSum_4 : decode prog_4_method_8_code 4 = .ok (.iload_n 2, 1) := by decide +kernel
theorem d_Code_weightSum_5 : decode prog_4_method_8_code 5 = .ok (.bipush 8, 2) := by decide +kernel
theorem d_Code_weightSum_7 : decode prog_4_method_8_code 7 = .ok (.if_icmp .ge 18, 3) := by decide +kernel
theorem d_Code_weightSum_10 : decode prog_4_method_8_code 10 = .ok (.iload_n 1, 1) := by decide +kernel
theorem d_Code_weightSum_11 : decode prog_4_method_8_code 11 = .ok (.aload_n 0, 1) := by decide +kernel
theorem d_Code_weightSum_12 : decode prog_4_method_8_code 12 = .ok (.getfield 9, 3) := by decide +kernel
theorem d_Code_weightSum_15 : decode prog_4_method_8_code 15 = .ok (.iload_n 2, 1) := by decide +kernel
theorem d_Code_weightSum_16 : decode prog_4_method_8_code 16 = .ok (.iaload, 1) := by decide +kernel
theorem d_Code_weightSum_17 : decode prog_4_method_8_code 17 = .ok (.iadd, 1) := by decide +kernel
theorem d_Code_weightSum_18 : decode prog_4_method_8_code 18 = .ok (.istore_n 1, 1) := by decide +kernel
theorem d_Code_weightSum_19 : decode prog_4_method_8_code 19 = .ok (.iinc 2 1, 3) := by decide +kernel
theorem d_Code_weightSum_22 : decode prog_4_method_8_code 22 = .ok (.goto (-18), 3) := by decide +kernel
theorem d_Code_weightSum_25 : decode prog_4_method_8_code 25 = .ok (.iload_n 1, 1) := by decide +kernel
theorem d_Code_weightSum_26 : decode prog_4_method_8_code 26 = .ok (.ireturn, 1) := by decide +kernel
set_option maxHeartbeats 4000000 in
set_option maxRecDepth 20000 in
theorem c_Code_weightSum {P : xP} {F : xF} {z : Nat} {c : Nat} {w : Nat → Nat} {ln : Nat → Nat} {vl : Nat → Nat} {od : Nat → Nat} {js : Nat} (hc : xCd F (c) (w) (ln) (vl) (od) (js))  : xM P xy_Code_weightSum [.ref c] F (z) 0 0 (fun r9 F9 z9 => r9 = some (.int (nI (sumN w 8))) ∧ F9 = F ∧ z9 = z) := by
  refine xM_i .int rfl (Nat.le_of_ble_eq_true rfl) (L0 := [some (.ref c), none, none]) rfl rfl fun Θ hC hret => ?_
  obtain ⟨h0, ⟨g1, h1, k1⟩, ⟨g2, h2, k2⟩, ⟨g3, h3, k3⟩, ⟨g4, h4, k4⟩, ⟨g5x, g5, h5, k5⟩, ⟨g6x, g6, h6, k6⟩, hbd, hjs⟩ := id hc
  refine x_iconst hC d_Code_weightSum_0 (v := nI 0) (by decide) ?_
  refine x_istore_n hC d_Code_weightSum_1 rfl (Nat.le_of_ble_eq_true rfl) (L1 := [some (.ref c), some (.int (nI 0)), none]) rfl ?_
  refine x_iconst hC d_Code_weightSum_2 (v := nI 0) (by decide) ?_
  refine x_istore_n hC d_Code_weightSum_3 rfl (Nat.le_of_ble_eq_true rfl) (L1 := [some (.ref c), some (.int (nI 0)), some (.int (nI 0))]) rfl ?_
  have loop_4 : ∀ (m9 : Nat) (i : Nat) (q1 : Nat), (F (c) = some (.inl (1, [.ref (c + 1), .ref (c + 2), .ref (c + 3), .ref (c + 4), .ref (c + 5), .ref (c + 6), .int (nI (js))]))) → (F (c + 1) = some (.inr (0, 8, fun b9 => .int (nI (g1 b9))))) → (F (c + 2) = some (.inr (0, 8, fun b9 => .int (nI (g2 b9))))) → (F (c + 3) = some (.inr (0, 8, fun b9 => .int (nI (g3 b9))))) → (F (c + 4) = some (.inr (0, 8, fun b9 => .int (nI (g4 b9))))) → (F (c + 5) = some (.inr (0, 8, fun b9 => .int (nI (g5 b9))))) → (F (c + 6) = some (.inr (0, 8, fun b9 => .int (nI (g6 b9))))) → (i ≤ 8) → (q1 = sumN w i) → (8 - i < m9) → xX P Θ 4 [some (.ref c), some (.int (nI (q1))), some (.int (nI (i)))] [] F (z) 0 0 := by
    intro m9
    induction m9 with
    | zero => intros; omega
    | succ m9 ih_4 =>
      intro  i q1 h0 h1 h2 h3 h4 h5 h6 hi kq hm_4
      have hq1 : q1 ≤ 99 * i := by rw [kq]; exact sumN_bd 99 i (fun j hj => (hbd j (by omega)).1)
      refine x_iload_n hC d_Code_weightSum_4 rfl rfl ?_
      refine x_bipush hC d_Code_weightSum_5 (v := nI 8) (by decide) ?_
      refine x_icmpN_ge hC d_Code_weightSum_7 (tgt := 25) (by decide) (by omega) (by omega) (fun c_7 => ?_) (fun c_7 => ?_)
      · skip
        refine x_iload_n hC d_Code_weightSum_25 rfl rfl ?_
        exact hret _ _ _ _ _ _ _ d_Code_weightSum_26 (by decide) (by decide) rfl (⟨by rw [kq, show i = 8 by omega], rfl, rfl⟩)
      · skip
        refine x_iload_n hC d_Code_weightSum_10 rfl rfl ?_
        refine x_aload_n hC d_Code_weightSum_11 rfl rfl ?_
        refine x_getf hC kf_Code_9 h0 rfl d_Code_weightSum_12 ?_
        refine x_iload_n hC d_Code_weightSum_15 rfl rfl ?_
        refine x_iald hC h1 (j := i) ⟨rfl, by omega, by omega⟩ (x := nI (g1 (i))) rfl d_Code_weightSum_16 ?_
        refine x_iadd hC d_Code_weightSum_17 (v := (nI ((q1) + (g1 (i))))) (x_addN (by omega)) ?_
        refine x_istore_n hC d_Code_weightSum_18 rfl (Nat.le_of_ble_eq_true rfl) (L1 := [some (.ref c), some (.int (nI ((q1) + (g1 (i))))), some (.int (nI (i)))]) rfl ?_
        refine x_iinc hC d_Code_weightSum_19 rfl (v := (nI (i + 1))) (x_incN 1) (Nat.le_of_ble_eq_true rfl) (L1 := [some (.ref c), some (.int (nI ((q1) + (g1 (i))))), some (.int (nI (i + 1)))]) rfl ?_
        refine x_goto hC d_Code_weightSum_22 (tgt := 4) (by decide) ?_
        exact ih_4  (i + 1) ((q1) + (g1 (i))) h0 h1 h2 h3 h4 h5 h6 (by omega) (by rw [kq, k1 i (by omega)]; rfl) (by omega)
  exact loop_4 (8 - 0 + 1)  (0) (0) h0 h1 h2 h3 h4 h5 h6 (by omega) (rfl) (by omega)

theorem d_Code_longest_0 : decode prog_4_method_9_code 0 = .ok (.iconst 0, 1) := by decide +kernel
theorem d_Code_longest_1 : decode prog_4_method_9_code 1 = .ok (.istore_n 1, 1) := by decide +kernel
theorem d_Code_longest_2 : decode prog_4_method_9_code 2 = .ok (.iconst 0, 1) := by decide +kernel
theorem d_Code_longest_3 : decode prog_4_method_9_code 3 = .ok (.istore_n 2, 1) := by decide +kernel
theorem d_Code_longest_4 : decode prog_4_method_9_code 4 = .ok (.iload_n 2, 1) := by decide +kernel
theorem d_Code_longest_5 : decode prog_4_method_9_code 5 = .ok (.bipush 8, 2) := by decide +kernel
theorem d_Code_longest_7 : decode prog_4_method_9_code 7 = .ok (.if_icmp .ge 20, 3) := by decide +kernel
theorem d_Code_longest_10 : decode prog_4_method_9_code 10 = .ok (.iload_n 1, 1) := by decide +kernel
theorem d_Code_longest_11 : decode prog_4_method_9_code 11 = .ok (.aload_n 0, 1) := by decide +kernel
theorem d_Code_longest_12 : decode prog_4_method_9_code 12 = .ok (.getfield 15, 3) := by decide +kernel
theorem d_Code_longest_15 : decode prog_4_method_9_code 15 = .ok (.iload_n 2, 1) := by decide +kernel
theorem d_Code_longest_16 : decode prog_4_method_9_code 16 = .ok (.iaload, 1) := by decide +kernel
theorem d_Code_longest_17 : decode prog_4_method_9_code 17 = .ok (.invokestatic 57, 3) := by decide +kernel
theorem d_Code_longest_20 : decode prog_4_method_9_code 20 = .ok (.istore_n 1, 1) := by decide +kernel
theorem d_Code_longest_21 : decode prog_4_method_9_code 21 = .ok (.iinc 2 1, 3) := by decide +kernel
theorem d_Code_longest_24 : decode prog_4_method_9_code 24 = .ok (.goto (-20), 3) := by decide +kernel
theorem d_Code_longest_27 : decode prog_4_method_9_code 27 = .ok (.iload_n 1, 1) := by decide +kernel
theorem d_Code_longest_28 : decode prog_4_method_9_code 28 = .ok (.ireturn, 1) := by decide +kernel
set_option maxHeartbeats 4000000 in
set_option maxRecDepth 20000 in
theorem c_Code_longest {P : xP} {F : xF} {z : Nat} {c : Nat} {w : Nat → Nat} {ln : Nat → Nat} {vl : Nat → Nat} {od : Nat → Nat} {js : Nat} (hc : xCd F (c) (w) (ln) (vl) (od) (js))  : xM P xy_Code_longest [.ref c] F (z) 0 0 (fun r9 F9 z9 => r9 = some (.int (nI (maxN ln 8))) ∧ F9 = F ∧ z9 = z) := by
  refine xM_i .int rfl (Nat.le_of_ble_eq_true rfl) (L0 := [some (.ref c), none, none]) rfl rfl fun Θ hC hret => ?_
  obtain ⟨h0, ⟨g1, h1, k1⟩, ⟨g2, h2, k2⟩, ⟨g3, h3, k3⟩, ⟨g4, h4, k4⟩, ⟨g5x, g5, h5, k5⟩, ⟨g6x, g6, h6, k6⟩, hbd, hjs⟩ := id hc
  refine x_iconst hC d_Code_longest_0 (v := nI 0) (by decide) ?_
  refine x_istore_n hC d_Code_longest_1 rfl (Nat.le_of_ble_eq_true rfl) (L1 := [some (.ref c), some (.int (nI 0)), none]) rfl ?_
  refine x_iconst hC d_Code_longest_2 (v := nI 0) (by decide) ?_
  refine x_istore_n hC d_Code_longest_3 rfl (Nat.le_of_ble_eq_true rfl) (L1 := [some (.ref c), some (.int (nI 0)), some (.int (nI 0))]) rfl ?_
  have loop_4 : ∀ (m9 : Nat) (i : Nat) (q1 : Nat), (F (c) = some (.inl (1, [.ref (c + 1), .ref (c + 2), .ref (c + 3), .ref (c + 4), .ref (c + 5), .ref (c + 6), .int (nI (js))]))) → (F (c + 1) = some (.inr (0, 8, fun b9 => .int (nI (g1 b9))))) → (F (c + 2) = some (.inr (0, 8, fun b9 => .int (nI (g2 b9))))) → (F (c + 3) = some (.inr (0, 8, fun b9 => .int (nI (g3 b9))))) → (F (c + 4) = some (.inr (0, 8, fun b9 => .int (nI (g4 b9))))) → (F (c + 5) = some (.inr (0, 8, fun b9 => .int (nI (g5 b9))))) → (F (c + 6) = some (.inr (0, 8, fun b9 => .int (nI (g6 b9))))) → (i ≤ 8) → (q1 = maxN ln i) → (8 - i < m9) → xX P Θ 4 [some (.ref c), some (.int (nI (q1))), some (.int (nI (i)))] [] F (z) 0 0 := by
    intro m9
    induction m9 with
    | zero => intros; omega
    | succ m9 ih_4 =>
      intro  i q1 h0 h1 h2 h3 h4 h5 h6 hi kq hm_4
      have hq1 : q1 ≤ 7 := by rw [kq]; exact maxN_le i (fun j hj => (hbd j (by omega)).2.1)
      refine x_iload_n hC d_Code_longest_4 rfl rfl ?_
      refine x_bipush hC d_Code_longest_5 (v := nI 8) (by decide) ?_
      refine x_icmpN_ge hC d_Code_longest_7 (tgt := 27) (by decide) (by omega) (by omega) (fun c_7 => ?_) (fun c_7 => ?_)
      · skip
        refine x_iload_n hC d_Code_longest_27 rfl rfl ?_
        exact hret _ _ _ _ _ _ _ d_Code_longest_28 (by decide) (by decide) rfl (⟨by rw [kq, show i = 8 by omega], rfl, rfl⟩)
      · skip
        refine x_iload_n hC d_Code_longest_10 rfl rfl ?_
        refine x_aload_n hC d_Code_longest_11 rfl rfl ?_
        refine x_getf hC kf_Code_15 h0 rfl d_Code_longest_12 ?_
        refine x_iload_n hC d_Code_longest_15 rfl rfl ?_
        refine x_iald hC h2 (j := i) ⟨rfl, by omega, by omega⟩ (x := nI (g2 (i))) rfl d_Code_longest_16 ?_
        have hb9 : g2 i ≤ 7 := by rw [k2 i (by omega)]; exact (hbd i (by omega)).2.1
        refine x_mmaxN hC km_Code_57 (by omega) (by omega) rfl (by decide) (Nat.le_of_ble_eq_true rfl) (by decide) d_Code_longest_17 (v := if q1 < g2 (i) then g2 (i) else q1) rfl ?_
        refine x_istore_n hC d_Code_longest_20 rfl (Nat.le_of_ble_eq_true rfl) (L1 := [some (.ref c), some (.int (nI (if q1 < g2 (i) then g2 (i) else q1))), some (.int (nI (i)))]) rfl ?_
        refine x_iinc hC d_Code_longest_21 rfl (v := (nI (i + 1))) (x_incN 1) (Nat.le_of_ble_eq_true rfl) (L1 := [some (.ref c), some (.int (nI (if q1 < g2 (i) then g2 (i) else q1))), some (.int (nI (i + 1)))]) rfl ?_
        refine x_goto hC d_Code_longest_24 (tgt := 4) (by decide) ?_
        exact ih_4  (i + 1) (if q1 < g2 (i) then g2 (i) else q1) h0 h1 h2 h3 h4 h5 h6 (by omega) (by rw [kq, k2 i (by omega)]; rfl) (by omega)
  exact loop_4 (8 - 0 + 1)  (0) (0) h0 h1 h2 h3 h4 h5 h6 (by omega) (rfl) (by omega)

theorem d_Code_fillsAll_0 : decode prog_4_method_10_code 0 = .ok (.iconst 0, 1) := by decide +kernel
theorem d_Code_fillsAll_1 : decode prog_4_method_10_code 1 = .ok (.istore_n 1, 1) := by decide +kernel
theorem d_Code_fillsAll_2 : decode prog_4_method_10_code 2 = .ok (.iconst 0, 1) := by decide +kernel
theorem d_Code_fillsAll_3 : decode prog_4_method_10_code 3 = .ok (.istore_n 2, 1) := by decide +kernel
theorem d_Code_fillsAll_4 : decode prog_4_method_10_code 4 = .ok (.iload_n 2, 1) := by decide +kernel
theorem d_Code_fillsAll_5 : decode prog_4_method_10_code 5 = .ok (.bipush 8, 2) := by decide +kernel
theorem d_Code_fillsAll_7 : decode prog_4_method_10_code 7 = .ok (.if_icmp .ge 23, 3) := by decide +kernel
theorem d_Code_fillsAll_10 : decode prog_4_method_10_code 10 = .ok (.iload_n 1, 1) := by decide +kernel
theorem d_Code_fillsAll_11 : decode prog_4_method_10_code 11 = .ok (.iconst 1, 1) := by decide +kernel
theorem d_Code_fillsAll_12 : decode prog_4_method_10_code 12 = .ok (.bipush 7, 2) := by decide +kernel
theorem d_Code_fillsAll_14 : decode prog_4_method_10_code 14 = .ok (.aload_n 0, 1) := by decide +kernel
theorem d_Code_fillsAll_15 : decode prog_4_method_10_code 15 = .ok (.getfield 15, 3) := by decide +kernel
theorem d_Code_fillsAll_18 : decode prog_4_method_10_code 18 = .ok (.iload_n 2, 1) := by decide +kernel
theorem d_Code_fillsAll_19 : decode prog_4_method_10_code 19 = .ok (.iaload, 1) := by decide +kernel
theorem d_Code_fillsAll_20 : decode prog_4_method_10_code 20 = .ok (.isub, 1) := by decide +kernel
theorem d_Code_fillsAll_21 : decode prog_4_method_10_code 21 = .ok (.ishl, 1) := by decide +kernel
theorem d_Code_fillsAll_22 : decode prog_4_method_10_code 22 = .ok (.iadd, 1) := by decide +kernel
theorem d_Code_fillsAll_23 : decode prog_4_method_10_code 23 = .ok (.istore_n 1, 1) := by decide +kernel
theorem d_Code_fillsAll_24 : decode prog_4_method_10_code 24 = .ok (.iinc 2 1, 3) := by decide +kernel
theorem d_Code_fillsAll_27 : decode prog_4_method_10_code 27 = .ok (.goto (-23), 3) := by decide +kernel
theorem d_Code_fillsAll_30 : decode prog_4_method_10_code 30 = .ok (.iload_n 1, 1) := by decide +kernel
theorem d_Code_fillsAll_31 : decode prog_4_method_10_code 31 = .ok (.sipush 128, 3) := by decide +kernel
theorem d_Code_fillsAll_34 : decode prog_4_method_10_code 34 = .ok (.if_icmp .ne 7, 3) := by decide +kernel
theorem d_Code_fillsAll_37 : decode prog_4_method_10_code 37 = .ok (.iconst 1, 1) := by decide +kernel
theorem d_Code_fillsAll_38 : decode prog_4_method_10_code 38 = .ok (.goto 4, 3) := by decide +kernel
theorem d_Code_fillsAll_41 : decode prog_4_method_10_code 41 = .ok (.iconst 0, 1) := by decide +kernel
theorem d_Code_fillsAll_42 : decode prog_4_method_10_code 42 = .ok (.ireturn, 1) := by decide +kernel
set_option maxHeartbeats 4000000 in
set_option maxRecDepth 20000 in
theorem c_Code_fillsAll {P : xP} {F : xF} {z : Nat} {c : Nat} {w : Nat → Nat} {ln : Nat → Nat} {vl : Nat → Nat} {od : Nat → Nat} {js : Nat} (hc : xCd F (c) (w) (ln) (vl) (od) (js))  : xM P xy_Code_fillsAll [.ref c] F (z) 0 0 (fun r9 F9 z9 => r9 = some (.int (xb (sumN (fun j => 2 ^ (7 - ln j)) 8 = 128))) ∧ F9 = F ∧ z9 = z) := by
  refine xM_i .boolean rfl (Nat.le_of_ble_eq_true rfl) (L0 := [some (.ref c), none, none]) rfl rfl fun Θ hC hret => ?_
  obtain ⟨h0, ⟨g1, h1, k1⟩, ⟨g2, h2, k2⟩, ⟨g3, h3, k3⟩, ⟨g4, h4, k4⟩, ⟨g5x, g5, h5, k5⟩, ⟨g6x, g6, h6, k6⟩, hbd, hjs⟩ := id hc
  refine x_iconst hC d_Code_fillsAll_0 (v := nI 0) (by decide) ?_
  refine x_istore_n hC d_Code_fillsAll_1 rfl (Nat.le_of_ble_eq_true rfl) (L1 := [some (.ref c), some (.int (nI 0)), none]) rfl ?_
  refine x_iconst hC d_Code_fillsAll_2 (v := nI 0) (by decide) ?_
  refine x_istore_n hC d_Code_fillsAll_3 rfl (Nat.le_of_ble_eq_true rfl) (L1 := [some (.ref c), some (.int (nI 0)), some (.int (nI 0))]) rfl ?_
  have loop_4 : ∀ (m9 : Nat) (i : Nat) (q1 : Nat), (F (c) = some (.inl (1, [.ref (c + 1), .ref (c + 2), .ref (c + 3), .ref (c + 4), .ref (c + 5), .ref (c + 6), .int (nI (js))]))) → (F (c + 1) = some (.inr (0, 8, fun b9 => .int (nI (g1 b9))))) → (F (c + 2) = some (.inr (0, 8, fun b9 => .int (nI (g2 b9))))) → (F (c + 3) = some (.inr (0, 8, fun b9 => .int (nI (g3 b9))))) → (F (c + 4) = some (.inr (0, 8, fun b9 => .int (nI (g4 b9))))) → (F (c + 5) = some (.inr (0, 8, fun b9 => .int (nI (g5 b9))))) → (F (c + 6) = some (.inr (0, 8, fun b9 => .int (nI (g6 b9))))) → (i ≤ 8) → (q1 = sumN (fun j => 2 ^ (7 - ln j)) i) → (8 - i < m9) → xX P Θ 4 [some (.ref c), some (.int (nI (q1))), some (.int (nI (i)))] [] F (z) 0 0 := by
    intro m9
    induction m9 with
    | zero => intros; omega
    | succ m9 ih_4 =>
      intro  i q1 h0 h1 h2 h3 h4 h5 h6 hi kq hm_4
      have hq1 : q1 ≤ 128 * i := by rw [kq]; exact sumN_bd 128 i (fun j hj => Nat.pow_le_pow_right (by omega) (show 7 - ln j ≤ 7 by omega))
      refine x_iload_n hC d_Code_fillsAll_4 rfl rfl ?_
      refine x_bipush hC d_Code_fillsAll_5 (v := nI 8) (by decide) ?_
      refine x_icmpN_ge hC d_Code_fillsAll_7 (tgt := 30) (by decide) (by omega) (by omega) (fun c_7 => ?_) (fun c_7 => ?_)
      · skip
        refine x_iload_n hC d_Code_fillsAll_30 rfl rfl ?_
        refine x_sipush hC d_Code_fillsAll_31 (v := nI 128) (by decide) ?_
        refine x_icmpN_ne hC d_Code_fillsAll_34 (tgt := 41) (by decide) (by omega) (by omega) (fun c_34 => ?_) (fun c_34 => ?_)
        · skip
          refine x_iconst hC d_Code_fillsAll_41 (v := nI 0) (by decide) ?_
          exact hret _ _ _ _ _ _ _ d_Code_fillsAll_42 (by decide) (by decide) rfl (⟨congrArg (fun q => some (Value.int q)) (xb_f0 (fun e => c_34 (by rw [kq, show i = 8 by omega]; exact e))), rfl, rfl⟩)
        · skip
          refine x_iconst hC d_Code_fillsAll_37 (v := nI 1) (by decide) ?_
          refine x_goto hC d_Code_fillsAll_38 (tgt := 42) (by decide) ?_
          exact hret _ _ _ _ _ _ _ d_Code_fillsAll_42 (by decide) (by decide) rfl (⟨congrArg (fun q => some (Value.int q)) (xb_t1 (by rw [← c_34, kq, show i = 8 by omega])), rfl, rfl⟩)
      · skip
        refine x_iload_n hC d_Code_fillsAll_10 rfl rfl ?_
        refine x_iconst hC d_Code_fillsAll_11 (v := nI 1) (by decide) ?_
        refine x_bipush hC d_Code_fillsAll_12 (v := nI 7) (by decide) ?_
        refine x_aload_n hC d_Code_fillsAll_14 rfl rfl ?_
        refine x_getf hC kf_Code_15 h0 rfl d_Code_fillsAll_15 ?_
        refine x_iload_n hC d_Code_fillsAll_18 rfl rfl ?_
        refine x_iald hC h2 (j := i) ⟨rfl, by omega, by omega⟩ (x := nI (g2 (i))) rfl d_Code_fillsAll_19 ?_
        have hb9 : g2 i ≤ 7 := by rw [k2 i (by omega)]; exact (hbd i (by omega)).2.1
        have hp9 : 2 ^ (7 - g2 i) ≤ 128 := Nat.pow_le_pow_right (by omega) (show 7 - g2 i ≤ 7 by omega)
        refine x_isub hC d_Code_fillsAll_20 (v := (nI ((7) - (g2 (i))))) (pk_sub (by omega)) ?_
        refine x_ishl hC d_Code_fillsAll_21 (v := (nI (2 ^ ((7) - (g2 (i)))))) (x_shlN (7 - g2 i) (by omega) (by omega) (by rw [Nat.one_mul])) ?_
        refine x_iadd hC d_Code_fillsAll_22 (v := (nI ((q1) + (2 ^ ((7) - (g2 (i))))))) (x_addN (by omega)) ?_
        refine x_istore_n hC d_Code_fillsAll_23 rfl (Nat.le_of_ble_eq_true rfl) (L1 := [some (.ref c), some (.int (nI ((q1) + (2 ^ ((7) - (g2 (i))))))), some (.int (nI (i)))]) rfl ?_
        refine x_iinc hC d_Code_fillsAll_24 rfl (v := (nI (i + 1))) (x_incN 1) (Nat.le_of_ble_eq_true rfl) (L1 := [some (.ref c), some (.int (nI ((q1) + (2 ^ ((7) - (g2 (i))))))), some (.int (nI (i + 1)))]) rfl ?_
        refine x_goto hC d_Code_fillsAll_27 (tgt := 4) (by decide) ?_
        exact ih_4  (i + 1) ((q1) + (2 ^ ((7) - (g2 (i))))) h0 h1 h2 h3 h4 h5 h6 (by omega) (by rw [kq, k2 i (by omega)]; rfl) (by omega)
  exact loop_4 (8 - 0 + 1)  (0) (0) h0 h1 h2 h3 h4 h5 h6 (by omega) (rfl) (by omega)

theorem d_Code_bitsFor_0 : decode prog_4_method_13_code 0 = .ok (.iconst 0, 1) := by decide +kernel
theorem d_Code_bitsFor_1 : decode prog_4_method_13_code 1 = .ok (.istore_n 2, 1) := by decide +kernel
theorem d_Code_bitsFor_2 : decode prog_4_method_13_code 2 = .ok (.iconst 0, 1) := by decide +kernel
theorem d_Code_bitsFor_3 : decode prog_4_method_13_code 3 = .ok (.istore_n 3, 1) := by decide +kernel
theorem d_Code_bitsFor_4 : decode prog_4_method_13_code 4 = .ok (.iload_n 3, 1) := by decide +kernel
theorem d_Code_bitsFor_5 : decode prog_4_method_13_code 5 = .ok (.aload_n 1, 1) := by decide +kernel
theorem d_Code_bitsFor_6 : decode prog_4_method_13_code 6 = .ok (.getfield 64, 3) := by decide +kernel
theorem d_Code_bitsFor_9 : decode prog_4_method_13_code 9 = .ok (.if_icmp .ge 21, 3) := by decide +kernel
theorem d_Code_bitsFor_12 : decode prog_4_method_13_code 12 = .ok (.iload_n 2, 1) := by decide +kernel
theorem d_Code_bitsFor_13 : decode prog_4_method_13_code 13 = .ok (.aload_n 0, 1) := by decide +kernel
theorem d_Code_bitsFor_14 : decode prog_4_method_13_code 14 = .ok (.aload_n 1, 1) := by decide +kernel
theorem d_Code_bitsFor_15 : decode prog_4_method_13_code 15 = .ok (.iload_n 3, 1) := by decide +kernel
theorem d_Code_bitsFor_16 : decode prog_4_method_13_code 16 = .ok (.invokevirtual 69, 3) := by decide +kernel
theorem d_Code_bitsFor_19 : decode prog_4_method_13_code 19 = .ok (.invokevirtual 73, 3) := by decide +kernel
theorem d_Code_bitsFor_22 : decode prog_4_method_13_code 22 = .ok (.iadd, 1) := by decide +kernel
theorem d_Code_bitsFor_23 : decode prog_4_method_13_code 23 = .ok (.istore_n 2, 1) := by decide +kernel
theorem d_Code_bitsFor_24 : decode prog_4_method_13_code 24 = .ok (.iinc 3 1, 3) := by decide +kernel
theorem d_Code_bitsFor_27 : decode prog_4_method_13_code 27 = .ok (.goto (-23), 3) := by decide +kernel
theorem d_Code_bitsFor_30 : decode prog_4_method_13_code 30 = .ok (.iload_n 2, 1) := by decide +kernel
theorem d_Code_bitsFor_31 : decode prog_4_method_13_code 31 = .ok (.ireturn, 1) := by decide +kernel
set_option maxHeartbeats 4000000 in
set_option maxRecDepth 20000 in
theorem c_Code_bitsFor {P : xP} {F : xF} {z : Nat} {c : Nat} {w : Nat → Nat} {ln : Nat → Nat} {vl : Nat → Nat} {od : Nat → Nat} {js : Nat} {t : Nat} {cap : Nat} {n : Nat} {s : Nat → Nat} (hc : xCd F (c) (w) (ln) (vl) (od) (js)) (ht : xTx F (t) (cap) (n) (s))  : xM P xy_Code_bitsFor [.ref c, .ref t] F (z) 0 0 (fun r9 F9 z9 => r9 = some (.int (nI (bitsN ln s n))) ∧ F9 = F ∧ z9 = z) := by
  refine xM_i .int rfl (Nat.le_of_ble_eq_true rfl) (L0 := [some (.ref c), some (.ref t), none, none]) rfl rfl fun Θ hC hret => ?_
  have hlt := ht.2.1
  have hbt := ht.2.2.1
  have hbd := hc.2.2.2.2.2.2.2.1
  refine x_iconst hC d_Code_bitsFor_0 (v := nI 0) (by decide) ?_
  refine x_istore_n hC d_Code_bitsFor_1 rfl (Nat.le_of_ble_eq_true rfl) (L1 := [some (.ref c), some (.ref t), some (.int (nI 0)), none]) rfl ?_
  refine x_iconst hC d_Code_bitsFor_2 (v := nI 0) (by decide) ?_
  refine x_istore_n hC d_Code_bitsFor_3 rfl (Nat.le_of_ble_eq_true rfl) (L1 := [some (.ref c), some (.ref t), some (.int (nI 0)), some (.int (nI 0))]) rfl ?_
  have loop_4 : ∀ (m9 : Nat) (i : Nat) (q1 : Nat), (xCd F (c) (w) (ln) (vl) (od) (js)) → (xTx F (t) (cap) (n) (s)) → (i ≤ n) → (q1 = bitsN ln s i) → (n - i < m9) → xX P Θ 4 [some (.ref c), some (.ref t), some (.int (nI (q1))), some (.int (nI (i)))] [] F (z) 0 0 := by
    intro m9
    induction m9 with
    | zero => intros; omega
    | succ m9 ih_4 =>
      intro  i q1 hc ht hi kq hm_4
      have hq1 : q1 ≤ 7 * i := by rw [kq]; exact bitsN_le (fun j hj => (hbd j hj).2.1) s i
      refine x_iload_n hC d_Code_bitsFor_4 rfl rfl ?_
      refine x_aload_n hC d_Code_bitsFor_5 rfl rfl ?_
      refine x_getf hC kf_Code_64 ht.1 rfl d_Code_bitsFor_6 ?_
      refine x_icmpN_ge hC d_Code_bitsFor_9 (tgt := 30) (by decide) (by omega) (by omega) (fun c_9 => ?_) (fun c_9 => ?_)
      · skip
        refine x_iload_n hC d_Code_bitsFor_30 rfl rfl ?_
        exact hret _ _ _ _ _ _ _ d_Code_bitsFor_31 (by decide) (by decide) rfl (⟨by rw [kq, show i = n by omega], rfl, rfl⟩)
      · skip
        refine x_iload_n hC d_Code_bitsFor_12 rfl rfl ?_
        refine x_aload_n hC d_Code_bitsFor_13 rfl rfl ?_
        refine x_aload_n hC d_Code_bitsFor_14 rfl rfl ?_
        refine x_iload_n hC d_Code_bitsFor_15 rfl rfl ?_
        refine x_callV hC kv_Code_69 (c_Text_at (ht := ht) (hi := by omega)) ht.1 rfl rfl (by decide) rfl rfl rfl (Nat.le_of_ble_eq_true rfl) (by decide) d_Code_bitsFor_16 (fun r9 F9 z9 hp9 => ?_)
        obtain ⟨rfl, h9b, h9c⟩ := hp9
        rw [h9b, h9c]
        clear h9b h9c F9 z9
        refine x_callV hC kv_Code_73 (c_Code_lengthFor (hc := hc) (hs := by rw [if_pos (by omega)]; have := hbt i (by omega); omega)) hc.1 rfl rfl (by decide) rfl rfl rfl (Nat.le_of_ble_eq_true rfl) (by decide) d_Code_bitsFor_19 (fun r9 F9 z9 hp9 => ?_)
        obtain ⟨rfl, h9b, h9c⟩ := hp9
        rw [h9b, h9c]
        clear h9b h9c F9 z9
        have hb9 : lenF ln (if i < n then s i else 0) ≤ 7 := lenF_le (fun j hj => (hbd j hj).2.1) _
        refine x_iadd hC d_Code_bitsFor_22 (v := (nI ((q1) + (lenF ln (if i < n then s i else 0))))) (x_addN (by omega)) ?_
        refine x_istore_n hC d_Code_bitsFor_23 rfl (Nat.le_of_ble_eq_true rfl) (L1 := [some (.ref c), some (.ref t), some (.int (nI ((q1) + (lenF ln (if i < n then s i else 0))))), some (.int (nI (i)))]) rfl ?_
        refine x_iinc hC d_Code_bitsFor_24 rfl (v := (nI (i + 1))) (x_incN 1) (Nat.le_of_ble_eq_true rfl) (L1 := [some (.ref c), some (.ref t), some (.int (nI ((q1) + (lenF ln (if i < n then s i else 0))))), some (.int (nI (i + 1)))]) rfl ?_
        refine x_goto hC d_Code_bitsFor_27 (tgt := 4) (by decide) ?_
        exact ih_4  (i + 1) ((q1) + (lenF ln (if i < n then s i else 0))) hc ht (by omega) (by rw [kq, if_pos (by omega)]; rfl) (by omega)
  exact loop_4 (n - 0 + 1)  (0) (0) hc ht (by omega) (rfl) (by omega)

theorem d_Code_symbolFor_0 : decode prog_4_method_14_code 0 = .ok (.iconst 0, 1) := by decide +kernel
theorem d_Code_symbolFor_1 : decode prog_4_method_14_code 1 = .ok (.istore_n 3, 1) := by decide +kernel
theorem d_Code_symbolFor_2 : decode prog_4_method_14_code 2 = .ok (.iload_n 3, 1) := by decide +kernel
theorem d_Code_symbolFor_3 : decode prog_4_method_14_code 3 = .ok (.bipush 8, 2) := by decide +kernel
theorem d_Code_symbolFor_5 : decode prog_4_method_14_code 5 = .ok (.if_icmp .ge 35, 3) := by decide +kernel
theorem d_Code_symbolFor_8 : decode prog_4_method_14_code 8 = .ok (.aload_n 0, 1) := by decide +kernel
theorem d_Code_symbolFor_9 : decode prog_4_method_14_code 9 = .ok (.getfield 15, 3) := by decide +kernel
theorem d_Code_symbolFor_12 : decode prog_4_method_14_code 12 = .ok (.iload_n 3, 1) := by decide +kernel
theorem d_Code_symbolFor_13 : decode prog_4_method_14_code 13 = .ok (.iaload, 1) := by decide +kernel
theorem d_Code_symbolFor_14 : decode prog_4_method_14_code 14 = .ok (.iload_n 2, 1) := by decide +kernel
theorem d_Code_symbolFor_15 : decode prog_4_method_14_code 15 = .ok (.if_icmp .ne 19, 3) := by decide +kernel
theorem d_Code_symbolFor_18 : decode prog_4_method_14_code 18 = .ok (.aload_n 0, 1) := by decide +kernel
theorem d_Code_symbolFor_19 : decode prog_4_method_14_code 19 = .ok (.getfield 18, 3) := by decide +kernel
theorem d_Code_symbolFor_22 : decode prog_4_method_14_code 22 = .ok (.iload_n 3, 1) := by decide +kernel
theorem d_Code_symbolFor_23 : decode prog_4_method_14_code 23 = .ok (.iaload, 1) := by decide +kernel
theorem d_Code_symbolFor_24 : decode prog_4_method_14_code 24 = .ok (.iload_n 1, 1) := by decide +kernel
theorem d_Code_symbolFor_25 : decode prog_4_method_14_code 25 = .ok (.if_icmp .ne 9, 3) := by decide +kernel
theorem d_Code_symbolFor_28 : decode prog_4_method_14_code 28 = .ok (.bipush 97, 2) := by decide +kernel
theorem d_Code_symbolFor_30 : decode prog_4_method_14_code 30 = .ok (.iload_n 3, 1) := by decide +kernel
theorem d_Code_symbolFor_31 : decode prog_4_method_14_code 31 = .ok (.iadd, 1) := by decide +kernel
theorem d_Code_symbolFor_32 : decode prog_4_method_14_code 32 = .ok (.i2c, 1) := by decide +kernel
theorem d_Code_symbolFor_33 : decode prog_4_method_14_code 33 = .ok (.ireturn, 1) := by decide +kernel
theorem d_Code_symbolFor_34 : decode prog_4_method_14_code 34 = .ok (.iinc 3 1, 3) := by decide +kernel
theorem d_Code_symbolFor_37 : decode prog_4_method_14_code 37 = .ok (.goto (-35), 3) := by decide +kernel
theorem d_Code_symbolFor_40 : decode prog_4_method_14_code 40 = .ok (.iconst 0, 1) := by decide +kernel
theorem d_Code_symbolFor_41 : decode prog_4_method_14_code 41 = .ok (.ireturn, 1) := by decide +kernel
set_option maxHeartbeats 4000000 in
set_option maxRecDepth 20000 in
theorem c_Code_symbolFor {P : xP} {F : xF} {z : Nat} {c : Nat} {w : Nat → Nat} {ln : Nat → Nat} {vl : Nat → Nat} {od : Nat → Nat} {js : Nat} {v : Nat} {l : Nat} (hc : xCd F (c) (w) (ln) (vl) (od) (js)) (hv : v < 2 ^ 31) (hl : l < 2 ^ 31) : xM P xy_Code_symbolFor [.ref c, .int (nI (v)), .int (nI (l))] F (z) 0 0 (fun r9 F9 z9 => r9 = some (.int (nI (if symF ln vl v l 8 < 8 then 97 + symF ln vl v l 8 else 0))) ∧ F9 = F ∧ z9 = z) := by
  refine xM_i .char rfl (Nat.le_of_ble_eq_true rfl) (L0 := [some (.ref c), some (.int (nI (v))), some (.int (nI (l))), none]) rfl rfl fun Θ hC hret => ?_
  obtain ⟨h0, ⟨g1, h1, k1⟩, ⟨g2, h2, k2⟩, ⟨g3, h3, k3⟩, ⟨g4, h4, k4⟩, ⟨g5x, g5, h5, k5⟩, ⟨g6x, g6, h6, k6⟩, hbd, hjs⟩ := id hc
  refine x_iconst hC d_Code_symbolFor_0 (v := nI 0) (by decide) ?_
  refine x_istore_n hC d_Code_symbolFor_1 rfl (Nat.le_of_ble_eq_true rfl) (L1 := [some (.ref c), some (.int (nI (v))), some (.int (nI (l))), some (.int (nI 0))]) rfl ?_
  have loop_2 : ∀ (m9 : Nat) (i : Nat), (F (c) = some (.inl (1, [.ref (c + 1), .ref (c + 2), .ref (c + 3), .ref (c + 4), .ref (c + 5), .ref (c + 6), .int (nI (js))]))) → (F (c + 1) = some (.inr (0, 8, fun b9 => .int (nI (g1 b9))))) → (F (c + 2) = some (.inr (0, 8, fun b9 => .int (nI (g2 b9))))) → (F (c + 3) = some (.inr (0, 8, fun b9 => .int (nI (g3 b9))))) → (F (c + 4) = some (.inr (0, 8, fun b9 => .int (nI (g4 b9))))) → (F (c + 5) = some (.inr (0, 8, fun b9 => .int (nI (g5 b9))))) → (F (c + 6) = some (.inr (0, 8, fun b9 => .int (nI (g6 b9))))) → (i ≤ 8) → (∀ j, j < i → ¬ (ln j = l ∧ vl j = v)) → (8 - i < m9) → xX P Θ 2 [some (.ref c), some (.int (nI (v))), some (.int (nI (l))), some (.int (nI (i)))] [] F (z) 0 0 := by
    intro m9
    induction m9 with
    | zero => intros; omega
    | succ m9 ih_2 =>
      intro  i h0 h1 h2 h3 h4 h5 h6 hi kq hm_2
      refine x_iload_n hC d_Code_symbolFor_2 rfl rfl ?_
      refine x_bipush hC d_Code_symbolFor_3 (v := nI 8) (by decide) ?_
      refine x_icmpN_ge hC d_Code_symbolFor_5 (tgt := 40) (by decide) (by omega) (by omega) (fun c_5 => ?_) (fun c_5 => ?_)
      · skip
        refine x_iconst hC d_Code_symbolFor_40 (v := nI 0) (by decide) ?_
        exact hret _ _ _ _ _ _ _ d_Code_symbolFor_41 (by decide) (by decide) rfl (⟨congrArg (fun q => some (Value.int (nI q))) (by rw [symF_none (fun j hj => kq j (by omega)) 8 (by omega)]; rfl), rfl, rfl⟩)
      · skip
        have hb9 := hbd i (by omega)
        have e2 := k2 i (by omega)
        have e3 := k3 i (by omega)
        refine x_aload_n hC d_Code_symbolFor_8 rfl rfl ?_
        refine x_getf hC kf_Code_15 h0 rfl d_Code_symbolFor_9 ?_
        refine x_iload_n hC d_Code_symbolFor_12 rfl rfl ?_
        refine x_iald hC h2 (j := i) ⟨rfl, by omega, by omega⟩ (x := nI (g2 (i))) rfl d_Code_symbolFor_13 ?_
        refine x_iload_n hC d_Code_symbolFor_14 rfl rfl ?_
        refine x_icmpN_ne hC d_Code_symbolFor_15 (tgt := 34) (by decide) (by omega) (by omega) (fun c_15 => ?_) (fun c_15 => ?_)
        · skip
          refine x_iinc hC d_Code_symbolFor_34 rfl (v := (nI (i + 1))) (x_incN 1) (Nat.le_of_ble_eq_true rfl) (L1 := [some (.ref c), some (.int (nI (v))), some (.int (nI (l))), some (.int (nI (i + 1)))]) rfl ?_
          refine x_goto hC d_Code_symbolFor_37 (tgt := 2) (by decide) ?_
          exact ih_2  (i + 1) h0 h1 h2 h3 h4 h5 h6 (by omega) (fun j hj => (Nat.lt_or_ge j i).elim (kq j) (fun q e => by rw [show j = i by omega] at e; first | exact c_15 (e2.trans e.1) | exact c_25 (e3.trans e.2))) (by omega)
        · skip
          refine x_aload_n hC d_Code_symbolFor_18 rfl rfl ?_
          refine x_getf hC kf_Code_18 h0 rfl d_Code_symbolFor_19 ?_
          refine x_iload_n hC d_Code_symbolFor_22 rfl rfl ?_
          refine x_iald hC h3 (j := i) ⟨rfl, by omega, by omega⟩ (x := nI (g3 (i))) rfl d_Code_symbolFor_23 ?_
          refine x_iload_n hC d_Code_symbolFor_24 rfl rfl ?_
          refine x_icmpN_ne hC d_Code_symbolFor_25 (tgt := 34) (by decide) (by omega) (by omega) (fun c_25 => ?_) (fun c_25 => ?_)
          · skip
            refine x_iinc hC d_Code_symbolFor_34 rfl (v := (nI (i + 1))) (x_incN 1) (Nat.le_of_ble_eq_true rfl) (L1 := [some (.ref c), some (.int (nI (v))), some (.int (nI (l))), some (.int (nI (i + 1)))]) rfl ?_
            refine x_goto hC d_Code_symbolFor_37 (tgt := 2) (by decide) ?_
            exact ih_2  (i + 1) h0 h1 h2 h3 h4 h5 h6 (by omega) (fun j hj => (Nat.lt_or_ge j i).elim (kq j) (fun q e => by rw [show j = i by omega] at e; first | exact c_15 (e2.trans e.1) | exact c_25 (e3.trans e.2))) (by omega)
          · skip
            refine x_bipush hC d_Code_symbolFor_28 (v := nI 97) (by decide) ?_
            refine x_iload_n hC d_Code_symbolFor_30 rfl rfl ?_
            refine x_iadd hC d_Code_symbolFor_31 (v := (nI (97 + i))) (x_addN (by omega)) ?_
            refine x_i2c hC d_Code_symbolFor_32 (v := (nI (97 + i))) (x_i2cN (by omega)) ?_
            exact hret _ _ _ _ _ _ _ d_Code_symbolFor_33 (by decide) (by decide) (x_char _ (by omega)) (⟨congrArg (fun q => some (Value.int (nI q))) (by rw [symF_first (i := i) (by omega) ⟨e2.symm.trans c_15, e3.symm.trans c_25⟩ kq, if_pos (by omega)]), rfl, rfl⟩)
  exact loop_2 (8 - 0 + 1)  (0) h0 h1 h2 h3 h4 h5 h6 (by omega) (fun _ hj => absurd hj (by omega)) (by omega)

theorem d_Code_lowestGroup_0 : decode prog_4_method_5_code 0 = .ok (.iconst (-1), 1) := by decide +kernel
theorem d_Code_lowestGroup_1 : decode prog_4_method_5_code 1 = .ok (.istore_n 2, 1) := by decide +kernel
theorem d_Code_lowestGroup_2 : decode prog_4_method_5_code 2 = .ok (.iconst 0, 1) := by decide +kernel
theorem d_Code_lowestGroup_3 : decode prog_4_method_5_code 3 = .ok (.istore_n 3, 1) := by decide +kernel
theorem d_Code_lowestGroup_4 : decode prog_4_method_5_code 4 = .ok (.iload_n 3, 1) := by decide +kernel
theorem d_Code_lowestGroup_5 : decode prog_4_method_5_code 5 = .ok (.bipush 8, 2) := by decide +kernel
theorem d_Code_lowestGroup_7 : decode prog_4_method_5_code 7 = .ok (.if_icmp .ge 58, 3) := by decide +kernel
theorem d_Code_lowestGroup_10 : decode prog_4_method_5_code 10 = .ok (.aload_n 0, 1) := by decide +kernel
theorem d_Code_lowestGroup_11 : decode prog_4_method_5_code 11 = .ok (.getfield 24, 3) := by decide +kernel
theorem d_Code_lowestGroup_14 : decode prog_4_method_5_code 14 = .ok (.iload_n 3, 1) := by decide +kernel
theorem d_Code_lowestGroup_15 : decode prog_4_method_5_code 15 = .ok (.iaload, 1) := by decide +kernel
theorem d_Code_lowestGroup_16 : decode prog_4_method_5_code 16 = .ok (.iload_n 3, 1) := by decide +kernel
theorem d_Code_lowestGroup_17 : decode prog_4_method_5_code 17 = .ok (.if_icmp .ne 12, 3) := by decide +kernel
theorem d_Code_lowestGroup_20 : decode prog_4_method_5_code 20 = .ok (.iload_n 3, 1) := by decide +kernel
theorem d_Code_lowestGroup_21 : decode prog_4_method_5_code 21 = .ok (.iload_n 1, 1) := by decide +kernel
theorem d_Code_lowestGroup_22 : decode prog_4_method_5_code 22 = .ok (.if_icmp .eq 7, 3) := by decide +kernel
theorem d_Code_lowestGroup_25 : decode prog_4_method_5_code 25 = .ok (.iconst 1, 1) := by decide +kernel
theorem d_Code_lowestGroup_26 : decode prog_4_method_5_code 26 = .ok (.goto 4, 3) := by decide +kernel
theorem d_Code_lowestGroup_29 : decode prog_4_method_5_code 29 = .ok (.iconst 0, 1) := by decide +kernel
theorem d_Code_lowestGroup_30 : decode prog_4_method_5_code 30 = .ok (.istore 4, 2) := by decide +kernel
theorem d_Code_lowestGroup_32 : decode prog_4_method_5_code 32 = .ok (.iload 4, 2) := by decide +kernel
theorem d_Code_lowestGroup_34 : decode prog_4_method_5_code 34 = .ok (.ifCond .eq 25, 3) := by decide +kernel
theorem d_Code_lowestGroup_37 : decode prog_4_method_5_code 37 = .ok (.iload_n 2, 1) := by decide +kernel
theorem d_Code_lowestGroup_38 : decode prog_4_method_5_code 38 = .ok (.iconst (-1), 1) := by decide +kernel
theorem d_Code_lowestGroup_39 : decode prog_4_method_5_code 39 = .ok (.if_icmp .eq 18, 3) := by decide +kernel
theorem d_Code_lowestGroup_42 : decode prog_4_method_5_code 42 = .ok (.aload_n 0, 1) := by decide +kernel
theorem d_Code_lowestGroup_43 : decode prog_4_method_5_code 43 = .ok (.getfield 27, 3) := by decide +kernel
theorem d_Code_lowestGroup_46 : decode prog_4_method_5_code 46 = .ok (.iload_n 3, 1) := by decide +kernel
theorem d_Code_lowestGroup_47 : decode prog_4_method_5_code 47 = .ok (.iaload, 1) := by decide +kernel
theorem d_Code_lowestGroup_48 : decode prog_4_method_5_code 48 = .ok (.aload_n 0, 1) := by decide +kernel
theorem d_Code_lowestGroup_49 : decode prog_4_method_5_code 49 = .ok (.getfield 27, 3) := by decide +kernel
theorem d_Code_lowestGroup_52 : decode prog_4_method_5_code 52 = .ok (.iload_n 2, 1) := by decide +kernel
theorem d_Code_lowestGroup_53 : decode prog_4_method_5_code 53 = .ok (.iaload, 1) := by decide +kernel
theorem d_Code_lowestGroup_54 : decode prog_4_method_5_code 54 = .ok (.if_icmp .ge 5, 3) := by decide +kernel
theorem d_Code_lowestGroup_57 : decode prog_4_method_5_code 57 = .ok (.iload_n 3, 1) := by decide +kernel
theorem d_Code_lowestGroup_58 : decode prog_4_method_5_code 58 = .ok (.istore_n 2, 1) := by decide +kernel
theorem d_Code_lowestGroup_59 : decode prog_4_method_5_code 59 = .ok (.iinc 3 1, 3) := by decide +kernel
theorem d_Code_lowestGroup_62 : decode prog_4_method_5_code 62 = .ok (.goto (-58), 3) := by decide +kernel
theorem d_Code_lowestGroup_65 : decode prog_4_method_5_code 65 = .ok (.iload_n 2, 1) := by decide +kernel
theorem d_Code_lowestGroup_66 : decode prog_4_method_5_code 66 = .ok (.ireturn, 1) := by decide +kernel
set_option maxHeartbeats 4000000 in
set_option maxRecDepth 20000 in
theorem c_Code_lowestGroup {P : xP} {F : xF} {z : Nat} {c : Nat} {js : Nat} {gr : Nat → Nat} {gw : Nat → Nat} {b : Nat} (h0 : F (c) = some (.inl (1, [.ref (c + 1), .ref (c + 2), .ref (c + 3), .ref (c + 4), .ref (c + 5), .ref (c + 6), .int (nI (js))]))) (h5 : F (c + 5) = some (.inr (0, 8, fun b9 => .int (nI (gr b9))))) (h6 : F (c + 6) = some (.inr (0, 8, fun b9 => .int (nI (gw b9))))) (hb : b ≤ 8) (hgr : ∀ j, j < 8 → gr j < 8) (hgw : ∀ j, j < 8 → gw j < 100000) : xM P xy_Code_lowestGroup [.ref c, .int (xo b)] F (z) 0 0 (fun r9 F9 z9 => r9 = some (.int (xo (lowN gr gw b 8))) ∧ F9 = F ∧ z9 = z) := by
  refine xM_i .int rfl (Nat.le_of_ble_eq_true rfl) (L0 := [some (.ref c), some (.int (xo b)), none, none, none]) rfl rfl fun Θ hC hret => ?_
  refine x_iconst hC d_Code_lowestGroup_0 (v := -1) (by decide) ?_
  refine x_top (v := (xo 8)) xo_8.symm ?_
  refine x_istore_n hC d_Code_lowestGroup_1 rfl (Nat.le_of_ble_eq_true rfl) (L1 := [some (.ref c), some (.int (xo b)), some (.int (xo 8)), none, none]) rfl ?_
  refine x_iconst hC d_Code_lowestGroup_2 (v := nI 0) (by decide) ?_
  refine x_istore_n hC d_Code_lowestGroup_3 rfl (Nat.le_of_ble_eq_true rfl) (L1 := [some (.ref c), some (.int (xo b)), some (.int (xo 8)), some (.int (nI 0)), none]) rfl ?_
  have loop_4 : ∀ (m9 : Nat) (k : Nat) (f : Nat), (F (c) = some (.inl (1, [.ref (c + 1), .ref (c + 2), .ref (c + 3), .ref (c + 4), .ref (c + 5), .ref (c + 6), .int (nI (js))]))) → (F (c + 5) = some (.inr (0, 8, fun b9 => .int (nI (gr b9))))) → (F (c + 6) = some (.inr (0, 8, fun b9 => .int (nI (gw b9))))) → (k ≤ 8) → (f = lowN gr gw b k) → (8 - k < m9) → xX P Θ 4 [some (.ref c), some (.int (xo b)), some (.int (xo (f))), some (.int (nI (k))), none] [] F (z) 0 0 := by
    intro m9
    induction m9 with
    | zero => intros; omega
    | succ m9 ih_4 =>
      intro  k f h0 h5 h6 hk kf hm_4
      have hf : f ≤ 8 := by rw [kf]; exact lowN_8 gr gw b hk
      refine x_iload_n hC d_Code_lowestGroup_4 rfl rfl ?_
      refine x_bipush hC d_Code_lowestGroup_5 (v := nI 8) (by decide) ?_
      refine x_icmpN_ge hC d_Code_lowestGroup_7 (tgt := 65) (by decide) (by omega) (by omega) (fun c_7 => ?_) (fun c_7 => ?_)
      · skip
        refine x_iload_n hC d_Code_lowestGroup_65 rfl rfl ?_
        exact hret _ _ _ _ _ _ _ d_Code_lowestGroup_66 (by decide) (by decide) rfl (⟨by rw [kf, show k = 8 by omega], rfl, rfl⟩)
      · skip
        refine x_aload_n hC d_Code_lowestGroup_10 rfl rfl ?_
        refine x_getf hC kf_Code_24 h0 rfl d_Code_lowestGroup_11 ?_
        have hb9 := hgr k (by omega)
        have hb8 := hgw k (by omega)
        refine x_iload_n hC d_Code_lowestGroup_14 rfl rfl ?_
        refine x_iald hC h5 (j := k) ⟨rfl, by omega, by omega⟩ (x := nI (gr (k))) rfl d_Code_lowestGroup_15 ?_
        refine x_iload_n hC d_Code_lowestGroup_16 rfl rfl ?_
        refine x_icmpN_ne hC d_Code_lowestGroup_17 (tgt := 29) (by decide) (by omega) (by omega) (fun c_17 => ?_) (fun c_17 => ?_)
        · skip
          refine x_iconst hC d_Code_lowestGroup_29 (v := nI 0) (by decide) ?_
          refine x_istore hC d_Code_lowestGroup_30 (Nat.le_of_ble_eq_true rfl) (L1 := [some (.ref c), some (.int (xo b)), some (.int (xo (f))), some (.int (nI (k))), some (.int (nI 0))]) rfl ?_
          refine x_iload hC d_Code_lowestGroup_32 rfl ?_
          refine x_ifN_eq hC d_Code_lowestGroup_34 (tgt := 59) (by decide) (by omega) (fun c_34 => ?_) (fun c_34 => ?_)
          · skip
            refine x_iinc hC d_Code_lowestGroup_59 rfl (v := (nI (k + 1))) (x_incN 1) (Nat.le_of_ble_eq_true rfl) (L1 := [some (.ref c), some (.int (xo b)), some (.int (xo (f))), some (.int (nI (k + 1))), some (.int (nI 0))]) rfl ?_
            refine x_goto hC d_Code_lowestGroup_62 (tgt := 4) (by decide) ?_
            refine x_forget (L1 := [some (.ref c), some (.int (xo b)), some (.int (xo (f))), some (.int (nI (k + 1))), none]) ⟨Or.inr rfl, ⟨Or.inr rfl, ⟨Or.inr rfl, ⟨Or.inr rfl, ⟨Or.inl rfl, trivial⟩⟩⟩⟩⟩ ?_
            exact ih_4  (k + 1) (f) h0 h5 h6 (by omega) (by first | (rw [lowN, ← kf, if_neg (fun h9 => c_17 h9.1)]; done) | (rw [lowN, ← kf, if_neg (fun h9 => h9.2.1 ((xo_eqN (by omega) hb).mp c_22))]; done) | (rw [lowN, ← kf, if_pos ⟨c_17, fun h9 => c_22 ((xo_eqN (by omega) hb).mpr h9), Or.inl ((xo_eq8 hf).mp c_39)⟩]; done) | (rw [lowN, ← kf, if_neg (fun h9 => h9.2.2.elim (fun e => c_39 ((xo_eq8 hf).mpr e)) (fun e => absurd e (by omega)))]; done) | (rw [lowN, ← kf, if_pos ⟨c_17, fun h9 => c_22 ((xo_eqN (by omega) hb).mpr h9), Or.inr c_54⟩])) (by omega)
          · skip
            exact absurd c_34 (by omega)
        · skip
          refine x_iload_n hC d_Code_lowestGroup_20 rfl rfl ?_
          refine x_iload_n hC d_Code_lowestGroup_21 rfl rfl ?_
          refine x_icmp_eq hC d_Code_lowestGroup_22 (tgt := 29) (by decide) (fun c_22 => ?_) (fun c_22 => ?_)
          · skip
            refine x_iconst hC d_Code_lowestGroup_29 (v := nI 0) (by decide) ?_
            refine x_istore hC d_Code_lowestGroup_30 (Nat.le_of_ble_eq_true rfl) (L1 := [some (.ref c), some (.int (xo b)), some (.int (xo (f))), some (.int (nI (k))), some (.int (nI 0))]) rfl ?_
            refine x_iload hC d_Code_lowestGroup_32 rfl ?_
            refine x_ifN_eq hC d_Code_lowestGroup_34 (tgt := 59) (by decide) (by omega) (fun c_34 => ?_) (fun c_34 => ?_)
            · skip
              refine x_iinc hC d_Code_lowestGroup_59 rfl (v := (nI (k + 1))) (x_incN 1) (Nat.le_of_ble_eq_true rfl) (L1 := [some (.ref c), some (.int (xo b)), some (.int (xo (f))), some (.int (nI (k + 1))), some (.int (nI 0))]) rfl ?_
              refine x_goto hC d_Code_lowestGroup_62 (tgt := 4) (by decide) ?_
              refine x_forget (L1 := [some (.ref c), some (.int (xo b)), some (.int (xo (f))), some (.int (nI (k + 1))), none]) ⟨Or.inr rfl, ⟨Or.inr rfl, ⟨Or.inr rfl, ⟨Or.inr rfl, ⟨Or.inl rfl, trivial⟩⟩⟩⟩⟩ ?_
              exact ih_4  (k + 1) (f) h0 h5 h6 (by omega) (by first | (rw [lowN, ← kf, if_neg (fun h9 => c_17 h9.1)]; done) | (rw [lowN, ← kf, if_neg (fun h9 => h9.2.1 ((xo_eqN (by omega) hb).mp c_22))]; done) | (rw [lowN, ← kf, if_pos ⟨c_17, fun h9 => c_22 ((xo_eqN (by omega) hb).mpr h9), Or.inl ((xo_eq8 hf).mp c_39)⟩]; done) | (rw [lowN, ← kf, if_neg (fun h9 => h9.2.2.elim (fun e => c_39 ((xo_eq8 hf).mpr e)) (fun e => absurd e (by omega)))]; done) | (rw [lowN, ← kf, if_pos ⟨c_17, fun h9 => c_22 ((xo_eqN (by omega) hb).mpr h9), Or.inr c_54⟩])) (by omega)
            · skip
              exact absurd c_34 (by omega)
          · skip
            refine x_iconst hC d_Code_lowestGroup_25 (v := nI 1) (by decide) ?_
            refine x_goto hC d_Code_lowestGroup_26 (tgt := 30) (by decide) ?_
            refine x_istore hC d_Code_lowestGroup_30 (Nat.le_of_ble_eq_true rfl) (L1 := [some (.ref c), some (.int (xo b)), some (.int (xo (f))), some (.int (nI (k))), some (.int (nI 1))]) rfl ?_
            refine x_iload hC d_Code_lowestGroup_32 rfl ?_
            refine x_ifN_eq hC d_Code_lowestGroup_34 (tgt := 59) (by decide) (by omega) (fun c_34 => ?_) (fun c_34 => ?_)
            · skip
              exact absurd c_34 (by omega)
            · skip
              refine x_iload_n hC d_Code_lowestGroup_37 rfl rfl ?_
              refine x_iconst hC d_Code_lowestGroup_38 (v := -1) (by decide) ?_
              refine x_icmp_eq hC d_Code_lowestGroup_39 (tgt := 57) (by decide) (fun c_39 => ?_) (fun c_39 => ?_)
              · skip
                refine x_iload_n hC d_Code_lowestGroup_57 rfl rfl ?_
                refine x_top (v := (xo (k))) (xo_of (by omega)).symm ?_
                refine x_istore_n hC d_Code_lowestGroup_58 rfl (Nat.le_of_ble_eq_true rfl) (L1 := [some (.ref c), some (.int (xo b)), some (.int (xo (k))), some (.int (nI (k))), some (.int (nI 1))]) rfl ?_
                refine x_iinc hC d_Code_lowestGroup_59 rfl (v := (nI (k + 1))) (x_incN 1) (Nat.le_of_ble_eq_true rfl) (L1 := [some (.ref c), some (.int (xo b)), some (.int (xo (k))), some (.int (nI (k + 1))), some (.int (nI 1))]) rfl ?_
                refine x_goto hC d_Code_lowestGroup_62 (tgt := 4) (by decide) ?_
                refine x_forget (L1 := [some (.ref c), some (.int (xo b)), some (.int (xo (k))), some (.int (nI (k + 1))), none]) ⟨Or.inr rfl, ⟨Or.inr rfl, ⟨Or.inr rfl, ⟨Or.inr rfl, ⟨Or.inl rfl, trivial⟩⟩⟩⟩⟩ ?_
                exact ih_4  (k + 1) (k) h0 h5 h6 (by omega) (by first | (rw [lowN, ← kf, if_neg (fun h9 => c_17 h9.1)]; done) | (rw [lowN, ← kf, if_neg (fun h9 => h9.2.1 ((xo_eqN (by omega) hb).mp c_22))]; done) | (rw [lowN, ← kf, if_pos ⟨c_17, fun h9 => c_22 ((xo_eqN (by omega) hb).mpr h9), Or.inl ((xo_eq8 hf).mp c_39)⟩]; done) | (rw [lowN, ← kf, if_neg (fun h9 => h9.2.2.elim (fun e => c_39 ((xo_eq8 hf).mpr e)) (fun e => absurd e (by omega)))]; done) | (rw [lowN, ← kf, if_pos ⟨c_17, fun h9 => c_22 ((xo_eqN (by omega) hb).mpr h9), Or.inr c_54⟩])) (by omega)
              · skip
                have hn8 : f ≠ 8 := fun e => c_39 ((xo_eq8 hf).mpr e)
                have hf8 : f < 8 := by omega
                have hb7 := hgw f hf8
                refine x_aload_n hC d_Code_lowestGroup_42 rfl rfl ?_
                refine x_getf hC kf_Code_27 h0 rfl d_Code_lowestGroup_43 ?_
                refine x_iload_n hC d_Code_lowestGroup_46 rfl rfl ?_
                refine x_iald hC h6 (j := k) ⟨rfl, by omega, by omega⟩ (x := nI (gw (k))) rfl d_Code_lowestGroup_47 ?_
                refine x_aload_n hC d_Code_lowestGroup_48 rfl rfl ?_
                refine x_getf hC kf_Code_27 h0 rfl d_Code_lowestGroup_49 ?_
                refine x_iload_n hC d_Code_lowestGroup_52 rfl rfl ?_
                refine x_iald hC h6 (j := f) ⟨xo_of hf8, hf8, by decide⟩ (x := nI (gw (f))) rfl d_Code_lowestGroup_53 ?_
                refine x_icmpN_ge hC d_Code_lowestGroup_54 (tgt := 59) (by decide) (by omega) (by omega) (fun c_54 => ?_) (fun c_54 => ?_)
                · skip
                  refine x_iinc hC d_Code_lowestGroup_59 rfl (v := (nI (k + 1))) (x_incN 1) (Nat.le_of_ble_eq_true rfl) (L1 := [some (.ref c), some (.int (xo b)), some (.int (xo (f))), some (.int (nI (k + 1))), some (.int (nI 1))]) rfl ?_
                  refine x_goto hC d_Code_lowestGroup_62 (tgt := 4) (by decide) ?_
                  refine x_forget (L1 := [some (.ref c), some (.int (xo b)), some (.int (xo (f))), some (.int (nI (k + 1))), none]) ⟨Or.inr rfl, ⟨Or.inr rfl, ⟨Or.inr rfl, ⟨Or.inr rfl, ⟨Or.inl rfl, trivial⟩⟩⟩⟩⟩ ?_
                  exact ih_4  (k + 1) (f) h0 h5 h6 (by omega) (by first | (rw [lowN, ← kf, if_neg (fun h9 => c_17 h9.1)]; done) | (rw [lowN, ← kf, if_neg (fun h9 => h9.2.1 ((xo_eqN (by omega) hb).mp c_22))]; done) | (rw [lowN, ← kf, if_pos ⟨c_17, fun h9 => c_22 ((xo_eqN (by omega) hb).mpr h9), Or.inl ((xo_eq8 hf).mp c_39)⟩]; done) | (rw [lowN, ← kf, if_neg (fun h9 => h9.2.2.elim (fun e => c_39 ((xo_eq8 hf).mpr e)) (fun e => absurd e (by omega)))]; done) | (rw [lowN, ← kf, if_pos ⟨c_17, fun h9 => c_22 ((xo_eqN (by omega) hb).mpr h9), Or.inr c_54⟩])) (by omega)
                · skip
                  refine x_iload_n hC d_Code_lowestGroup_57 rfl rfl ?_
                  refine x_top (v := (xo (k))) (xo_of (by omega)).symm ?_
                  refine x_istore_n hC d_Code_lowestGroup_58 rfl (Nat.le_of_ble_eq_true rfl) (L1 := [some (.ref c), some (.int (xo b)), some (.int (xo (k))), some (.int (nI (k))), some (.int (nI 1))]) rfl ?_
                  refine x_iinc hC d_Code_lowestGroup_59 rfl (v := (nI (k + 1))) (x_incN 1) (Nat.le_of_ble_eq_true rfl) (L1 := [some (.ref c), some (.int (xo b)), some (.int (xo (k))), some (.int (nI (k + 1))), some (.int (nI 1))]) rfl ?_
                  refine x_goto hC d_Code_lowestGroup_62 (tgt := 4) (by decide) ?_
                  refine x_forget (L1 := [some (.ref c), some (.int (xo b)), some (.int (xo (k))), some (.int (nI (k + 1))), none]) ⟨Or.inr rfl, ⟨Or.inr rfl, ⟨Or.inr rfl, ⟨Or.inr rfl, ⟨Or.inl rfl, trivial⟩⟩⟩⟩⟩ ?_
                  exact ih_4  (k + 1) (k) h0 h5 h6 (by omega) (by first | (rw [lowN, ← kf, if_neg (fun h9 => c_17 h9.1)]; done) | (rw [lowN, ← kf, if_neg (fun h9 => h9.2.1 ((xo_eqN (by omega) hb).mp c_22))]; done) | (rw [lowN, ← kf, if_pos ⟨c_17, fun h9 => c_22 ((xo_eqN (by omega) hb).mpr h9), Or.inl ((xo_eq8 hf).mp c_39)⟩]; done) | (rw [lowN, ← kf, if_neg (fun h9 => h9.2.2.elim (fun e => c_39 ((xo_eq8 hf).mpr e)) (fun e => absurd e (by omega)))]; done) | (rw [lowN, ← kf, if_pos ⟨c_17, fun h9 => c_22 ((xo_eqN (by omega) hb).mpr h9), Or.inr c_54⟩])) (by omega)
  exact loop_4 (8 - 0 + 1)  (0) (8) h0 h5 h6 (by omega) (rfl) (by omega)

theorem d_Code_join_0 : decode prog_4_method_6_code 0 = .ok (.iload_n 1, 1) := by decide +kernel
theorem d_Code_join_1 : decode prog_4_method_6_code 1 = .ok (.iconst (-1), 1) := by decide +kernel
theorem d_Code_join_2 : decode prog_4_method_6_code 2 = .ok (.if_icmp .eq 8, 3) := by decide +kernel
theorem d_Code_join_5 : decode prog_4_method_6_code 5 = .ok (.iload_n 2, 1) := by decide +kernel
theorem d_Code_join_6 : decode prog_4_method_6_code 6 = .ok (.iconst (-1), 1) := by decide +kernel
theorem d_Code_join_7 : decode prog_4_method_6_code 7 = .ok (.if_icmp .ne 4, 3) := by decide +kernel
theorem d_Code_join_10 : decode prog_4_method_6_code 10 = .ok (.return_, 1) := by decide +kernel
theorem d_Code_join_11 : decode prog_4_method_6_code 11 = .ok (.iload_n 1, 1) := by decide +kernel
theorem d_Code_join_12 : decode prog_4_method_6_code 12 = .ok (.iload_n 2, 1) := by decide +kernel
theorem d_Code_join_13 : decode prog_4_method_6_code 13 = .ok (.invokestatic 51, 3) := by decide +kernel
theorem d_Code_join_16 : decode prog_4_method_6_code 16 = .ok (.istore_n 3, 1) := by decide +kernel
theorem d_Code_join_17 : decode prog_4_method_6_code 17 = .ok (.aload_n 0, 1) := by decide +kernel
theorem d_Code_join_18 : decode prog_4_method_6_code 18 = .ok (.getfield 27, 3) := by decide +kernel
theorem d_Code_join_21 : decode prog_4_method_6_code 21 = .ok (.iload_n 3, 1) := by decide +kernel
theorem d_Code_join_22 : decode prog_4_method_6_code 22 = .ok (.aload_n 0, 1) := by decide +kernel
theorem d_Code_join_23 : decode prog_4_method_6_code 23 = .ok (.getfield 27, 3) := by decide +kernel
theorem d_Code_join_26 : decode prog_4_method_6_code 26 = .ok (.iload_n 1, 1) := by decide +kernel
theorem d_Code_join_27 : decode prog_4_method_6_code 27 = .ok (.iaload, 1) := by decide +kernel
theorem d_Code_join_28 : decode prog_4_method_6_code 28 = .ok (.aload_n 0, 1) := by decide +kernel
theorem d_Code_join_29 : decode prog_4_method_6_code 29 = .ok (.getfield 27, 3) := by decide +kernel
theorem d_Code_join_32 : decode prog_4_method_6_code 32 = .ok (.iload_n 2, 1) := by decide +kernel
theorem d_Code_join_33 : decode prog_4_method_6_code 33 = .ok (.iaload, 1) := by decide +kernel
theorem d_Code_join_34 : decode prog_4_method_6_code 34 = .ok (.iadd, 1) := by decide +kernel
theorem d_Code_join_35 : decode prog_4_method_6_code 35 = .ok (.iastore, 1) := by decide +kernel
theorem d_Code_join_36 : decode prog_4_method_6_code 36 = .ok (.aload_n 0, 1) := by decide +kernel
theorem d_Code_join_37 : decode prog_4_method_6_code 37 = .ok (.dup, 1) := by decide +kernel
theorem d_Code_join_38 : decode prog_4_method_6_code 38 = .ok (.getfield 33, 3) := by decide +kernel
theorem d_Code_join_41 : decode prog_4_method_6_code 41 = .ok (.aload_n 0, 1) := by decide +kernel
theorem d_Code_join_42 : decode prog_4_method_6_code 42 = .ok (.getfield 27, 3) := by decide +kernel
theorem d_Code_join_45 : decode prog_4_method_6_code 45 = .ok (.iload_n 3, 1) := by decide +kernel
theorem d_Code_join_46 : decode prog_4_method_6_code 46 = .ok (.iaload, 1) := by decide +kernel
theorem d_Code_join_47 : decode prog_4_method_6_code 47 = .ok (.iadd, 1) := by decide +kernel
theorem d_Code_join_48 : decode prog_4_method_6_code 48 = .ok (.putfield 33, 3) := by decide +kernel
theorem d_Code_join_51 : decode prog_4_method_6_code 51 = .ok (.iconst 0, 1) := by decide +kernel
theorem d_Code_join_52 : decode prog_4_method_6_code 52 = .ok (.istore 4, 2) := by decide +kernel
theorem d_Code_join_54 : decode prog_4_method_6_code 54 = .ok (.iload 4, 2) := by decide +kernel
theorem d_Code_join_56 : decode prog_4_method_6_code 56 = .ok (.bipush 8, 2) := by decide +kernel
theorem d_Code_join_58 : decode prog_4_method_6_code 58 = .ok (.if_icmp .ge 50, 3) := by decide +kernel
theorem d_Code_join_61 : decode prog_4_method_6_code 61 = .ok (.aload_n 0, 1) := by decide +kernel
theorem d_Code_join_62 : decode prog_4_method_6_code 62 = .ok (.getfield 24, 3) := by decide +kernel
theorem d_Code_join_65 : decode prog_4_method_6_code 65 = .ok (.iload 4, 2) := by decide +kernel
theorem d_Code_join_67 : decode prog_4_method_6_code 67 = .ok (.iaload, 1) := by decide +kernel
theorem d_Code_join_68 : decode prog_4_method_6_code 68 = .ok (.iload_n 1, 1) := by decide +kernel
theorem d_Code_join_69 : decode prog_4_method_6_code 69 = .ok (.if_icmp .eq 14, 3) := by decide +kernel
theorem d_Code_join_72 : decode prog_4_method_6_code 72 = .ok (.aload_n 0, 1) := by decide +kernel
theorem d_Code_join_73 : decode prog_4_method_6_code 73 = .ok (.getfield 24, 3) := by decide +kernel
theorem d_Code_join_76 : decode prog_4_method_6_code 76 = .ok (.iload 4, 2) := by decide +kernel
theorem d_Code_join_78 : decode prog_4_method_6_code 78 = .ok (.iaload, 1) := by decide +kernel
theorem d_Code_join_79 : decode prog_4_method_6_code 79 = .ok (.iload_n 2, 1) := by decide +kernel
theorem d_Code_join_80 : decode prog_4_method_6_code 80 = .ok (.if_icmp .ne 22, 3) := by decide +kernel
theorem d_Code_join_83 : decode prog_4_method_6_code 83 = .ok (.aload_n 0, 1) := by decide +kernel
theorem d_Code_join_84 : decode prog_4_method_6_code 84 = .ok (.getfield 24, 3) := by decide +kernel
theorem d_Code_join_87 : decode prog_4_method_6_code 87 = .ok (.iload 4, 2) := by decide +kernel
theorem d_Code_join_89 : decode prog_4_method_6_code 89 = .ok (.iload_n 3, 1) := by decide +kernel
theorem d_Code_join_90 : decode prog_4_method_6_code 90 = .ok (.iastore, 1) := by decide +kernel
theorem d_Code_join_91 : decode prog_4_method_6_code 91 = .ok (.aload_n 0, 1) := by decide +kernel
theorem d_Code_join_92 : decode prog_4_method_6_code 92 = .ok (.getfield 15, 3) := by decide +kernel
theorem d_Code_join_95 : decode prog_4_method_6_code 95 = .ok (.iload 4, 2) := by decide +kernel
theorem d_Code_join_97 : decode prog_4_method_6_code 97 = .ok (.dup2, 1) := by decide +kernel
theorem d_Code_join_98 : decode prog_4_method_6_code 98 = .ok (.iaload, 1) := by decide +kernel
theorem d_Code_join_99 : decode prog_4_method_6_code 99 = .ok (.iconst 1, 1) := by decide +kernel
theorem d_Code_join_100 : decode prog_4_method_6_code 100 = .ok (.iadd, 1) := by decide +kernel
theorem d_Code_join_101 : decode prog_4_method_6_code 101 = .ok (.iastore, 1) := by decide +kernel
theorem d_Code_join_102 : decode prog_4_method_6_code 102 = .ok (.iinc 4 1, 3) := by decide +kernel
theorem d_Code_join_105 : decode prog_4_method_6_code 105 = .ok (.goto (-51), 3) := by decide +kernel
theorem d_Code_join_108 : decode prog_4_method_6_code 108 = .ok (.return_, 1) := by decide +kernel
set_option maxHeartbeats 4000000 in
set_option maxRecDepth 20000 in
theorem c_Code_join {P : xP} {F : xF} {z : Nat} {c : Nat} {js : Nat} {ln : Nat → Nat} {gr : Nat → Nat} {gw : Nat → Nat} {a : Nat} {b : Nat} (h0 : F (c) = some (.inl (1, [.ref (c + 1), .ref (c + 2), .ref (c + 3), .ref (c + 4), .ref (c + 5), .ref (c + 6), .int (nI (js))]))) (h2 : F (c + 2) = some (.inr (0, 8, fun b9 => .int (nI (ln b9))))) (h5 : F (c + 5) = some (.inr (0, 8, fun b9 => .int (nI (gr b9))))) (h6 : F (c + 6) = some (.inr (0, 8, fun b9 => .int (nI (gw b9))))) (ha : a < 8) (hb : b < 8) (hgr : ∀ j, j < 8 → gr j < 8) (hln : ∀ j, j < 8 → ln j < 100) (hgw : ∀ j, j < 8 → gw j < 100000) (hjs : js < 1000000) : xM P xy_Code_join [.ref c, .int (nI (a)), .int (nI (b))] F (z) 0 0 (fun r9 F9 z9 => ∃ ln1 : Nat → Nat, ∃ gr1 : Nat → Nat, r9 = none ∧ z9 = z ∧ F9 (c) = some (.inl (1, [.ref (c + 1), .ref (c + 2), .ref (c + 3), .ref (c + 4), .ref (c + 5), .ref (c + 6), .int (nI (js + (gw a + gw b)))])) ∧ F9 (c + 2) = some (.inr (0, 8, fun b9 => .int (nI (ln1 b9)))) ∧ F9 (c + 5) = some (.inr (0, 8, fun b9 => .int (nI (gr1 b9)))) ∧ F9 (c + 6) = some (.inr (0, 8, fun b9 => .int (nI ((updN gw (min a b) (gw a + gw b)) b9)))) ∧ (∀ j, j < 8 → gr1 j = (if gr j = a ∨ gr j = b then min a b else gr j) ∧ ln1 j = (if gr j = a ∨ gr j = b then ln j + 1 else ln j)) ∧ (∀ a9 : Nat, (a9 < c ∨ c + 1 ≤ a9) → (a9 < c + 2 ∨ c + 2 + 1 ≤ a9) → (a9 < c + 5 ∨ c + 5 + 2 ≤ a9) → F9 a9 = F a9)) := by
  refine xM_v rfl (Nat.le_of_ble_eq_true rfl) (L0 := [some (.ref c), some (.int (nI (a))), some (.int (nI (b))), none, none]) rfl rfl fun Θ hC hin hret => ?_
  have hag : ∀ a9 : Nat, (a9 < c ∨ c + 1 ≤ a9) → (a9 < c + 2 ∨ c + 2 + 1 ≤ a9) → (a9 < c + 5 ∨ c + 5 + 2 ≤ a9) → F a9 = F a9 := fun a9 _ _ _ => rfl
  have hga := hgw a ha
  have hgb := hgw b hb
  refine x_iload_n hC d_Code_join_0 rfl rfl ?_
  refine x_iconst hC d_Code_join_1 (v := -1) (by decide) ?_
  refine x_icmp_eq hC d_Code_join_2 (tgt := 10) (by decide) (fun c_2 => ?_) (fun c_2 => ?_)
  · skip
    exact absurd c_2 (by rw [show (-1 : Int32) = xo 8 from rfl, xo_eqN (by omega) (by omega)]; omega)
  · skip
    refine x_iload_n hC d_Code_join_5 rfl rfl ?_
    refine x_iconst hC d_Code_join_6 (v := -1) (by decide) ?_
    refine x_icmp_ne hC d_Code_join_7 (tgt := 11) (by decide) (fun c_7 => ?_) (fun c_7 => ?_)
    · skip
      refine x_iload_n hC d_Code_join_11 rfl rfl ?_
      refine x_iload_n hC d_Code_join_12 rfl rfl ?_
      refine x_mminN hC km_Code_51 (by omega) (by omega) rfl (by decide) (Nat.le_of_ble_eq_true rfl) (by decide) d_Code_join_13 (v := min a b) (by rw [Nat.min_def]; split <;> split <;> omega) ?_
      refine x_istore_n hC d_Code_join_16 rfl (Nat.le_of_ble_eq_true rfl) (L1 := [some (.ref c), some (.int (nI (a))), some (.int (nI (b))), some (.int (nI (min a b))), none]) rfl ?_
      have hm8 : min a b < 8 := by omega
      refine x_aload_n hC d_Code_join_17 rfl rfl ?_
      refine x_getf hC kf_Code_27 h0 rfl d_Code_join_18 ?_
      refine x_iload_n hC d_Code_join_21 rfl rfl ?_
      refine x_aload_n hC d_Code_join_22 rfl rfl ?_
      refine x_getf hC kf_Code_27 h0 rfl d_Code_join_23 ?_
      refine x_iload_n hC d_Code_join_26 rfl rfl ?_
      refine x_iald hC h6 (j := a) ⟨rfl, by omega, by omega⟩ (x := nI (gw (a))) rfl d_Code_join_27 ?_
      refine x_aload_n hC d_Code_join_28 rfl rfl ?_
      refine x_getf hC kf_Code_27 h0 rfl d_Code_join_29 ?_
      refine x_iload_n hC d_Code_join_32 rfl rfl ?_
      refine x_iald hC h6 (j := b) ⟨rfl, by omega, by omega⟩ (x := nI (gw (b))) rfl d_Code_join_33 ?_
      refine x_iadd hC d_Code_join_34 (v := (nI ((gw (a)) + (gw (b))))) (x_addN (by omega)) ?_
      refine x_iast hC h6 (j := min a b) ⟨rfl, by omega, by omega⟩ d_Code_join_35 (g1 := fun b9 => nI (updN gw (min a b) ((gw (a)) + (gw (b))) b9)) (x_updN _ _ _) ?_
      generalize egz : updN gw (min a b) ((gw (a)) + (gw (b))) = gz
      generalize e2 : xup F (c + 6) (.inr (0, 8, fun b9 => .int (nI (gz b9)))) = F2
      have h0 : F2 (c) = some (.inl (1, [.ref (c + 1), .ref (c + 2), .ref (c + 3), .ref (c + 4), .ref (c + 5), .ref (c + 6), .int (nI (js))])) := by rw [← e2]; exact (xup_ne (by omega)).trans h0
      have h2 : F2 (c + 2) = some (.inr (0, 8, fun b9 => .int (nI (ln b9)))) := by rw [← e2]; exact (xup_ne (by omega)).trans h2
      have h5 : F2 (c + 5) = some (.inr (0, 8, fun b9 => .int (nI (gr b9)))) := by rw [← e2]; exact (xup_ne (by omega)).trans h5
      have h6 : F2 (c + 6) = some (.inr (0, 8, fun b9 => .int (nI (gz b9)))) := by rw [← e2]; exact xup_eq
      have hag : ∀ a9 : Nat, (a9 < c ∨ c + 1 ≤ a9) → (a9 < c + 2 ∨ c + 2 + 1 ≤ a9) → (a9 < c + 5 ∨ c + 5 + 2 ≤ a9) → F2 a9 = F a9 := fun a9 q0 q1 q2 => by rw [← e2]; exact (xup_ne (by omega)).trans (hag a9 q0 q1 q2)
      subst egz
      refine x_aload_n hC d_Code_join_36 rfl rfl ?_
      refine x_dup hC d_Code_join_37 rfl ?_
      refine x_getf hC kf_Code_33 h0 rfl d_Code_join_38 ?_
      refine x_aload_n hC d_Code_join_41 rfl rfl ?_
      refine x_getf hC kf_Code_27 h0 rfl d_Code_join_42 ?_
      refine x_iload_n hC d_Code_join_45 rfl rfl ?_
      refine x_iald hC h6 (j := min a b) ⟨rfl, by omega, by omega⟩ (x := nI (gw a + gw b)) (congrArg nI updN_eq) d_Code_join_46 ?_
      refine x_iadd hC d_Code_join_47 (v := (nI (js + (gw a + gw b)))) (x_addN rfl) ?_
      refine x_putf hC kf_Code_33 h0 (Nat.le_of_ble_eq_true rfl) rfl rfl d_Code_join_48 (fs1 := [.ref (c + 1), .ref (c + 2), .ref (c + 3), .ref (c + 4), .ref (c + 5), .ref (c + 6), .int (nI (js + (gw a + gw b)))]) rfl ?_
      generalize e3 : xup F2 (c) (.inl (1, [.ref (c + 1), .ref (c + 2), .ref (c + 3), .ref (c + 4), .ref (c + 5), .ref (c + 6), .int (nI (js + (gw a + gw b)))])) = F3
      have h0 : F3 (c) = some (.inl (1, [.ref (c + 1), .ref (c + 2), .ref (c + 3), .ref (c + 4), .ref (c + 5), .ref (c + 6), .int (nI (js + (gw a + gw b)))])) := by rw [← e3]; exact xup_eq
      have h2 : F3 (c + 2) = some (.inr (0, 8, fun b9 => .int (nI (ln b9)))) := by rw [← e3]; exact (xup_ne (by omega)).trans h2
      have h5 : F3 (c + 5) = some (.inr (0, 8, fun b9 => .int (nI (gr b9)))) := by rw [← e3]; exact (xup_ne (by omega)).trans h5
      have h6 : F3 (c + 6) = some (.inr (0, 8, fun b9 => .int (nI ((updN gw (min a b) (gw a + gw b)) b9)))) := by rw [← e3]; exact (xup_ne (by omega)).trans h6
      have hag : ∀ a9 : Nat, (a9 < c ∨ c + 1 ≤ a9) → (a9 < c + 2 ∨ c + 2 + 1 ≤ a9) → (a9 < c + 5 ∨ c + 5 + 2 ≤ a9) → F3 a9 = F a9 := fun a9 q0 q1 q2 => by rw [← e3]; exact (xup_ne (by omega)).trans (hag a9 q0 q1 q2)
      refine x_iconst hC d_Code_join_51 (v := nI 0) (by decide) ?_
      refine x_istore hC d_Code_join_52 (Nat.le_of_ble_eq_true rfl) (L1 := [some (.ref c), some (.int (nI (a))), some (.int (nI (b))), some (.int (nI (min a b))), some (.int (nI 0))]) rfl ?_
      have loop_54 : ∀ (m9 : Nat) (Fh54 : xF) (i : Nat) (gr1 : Nat → Nat) (ln1 : Nat → Nat), (Fh54 (c) = some (.inl (1, [.ref (c + 1), .ref (c + 2), .ref (c + 3), .ref (c + 4), .ref (c + 5), .ref (c + 6), .int (nI (js + (gw a + gw b)))]))) → (Fh54 (c + 2) = some (.inr (0, 8, fun b9 => .int (nI (ln1 b9))))) → (Fh54 (c + 5) = some (.inr (0, 8, fun b9 => .int (nI (gr1 b9))))) → (Fh54 (c + 6) = some (.inr (0, 8, fun b9 => .int (nI ((updN gw (min a b) (gw a + gw b)) b9))))) → (∀ a9 : Nat, (a9 < c ∨ c + 1 ≤ a9) → (a9 < c + 2 ∨ c + 2 + 1 ≤ a9) → (a9 < c + 5 ∨ c + 5 + 2 ≤ a9) → Fh54 a9 = F a9) → (i ≤ 8) → (∀ j, i ≤ j → j < 8 → gr1 j = gr j) → (∀ j, i ≤ j → j < 8 → ln1 j = ln j) → (∀ j, j < i → gr1 j = (if gr j = a ∨ gr j = b then min a b else gr j) ∧ ln1 j = (if gr j = a ∨ gr j = b then ln j + 1 else ln j)) → (8 - i < m9) → xX P Θ 54 [some (.ref c), some (.int (nI (a))), some (.int (nI (b))), some (.int (nI (min a b))), some (.int (nI (i)))] [] Fh54 (z) 0 0 := by
        intro m9
        induction m9 with
        | zero => intros; omega
        | succ m9 ih_54 =>
          intro Fh54 i gr1 ln1 h0 h2 h5 h6 hag hi kh kl kd hm_54
          refine x_iload hC d_Code_join_54 rfl ?_
          refine x_bipush hC d_Code_join_56 (v := nI 8) (by decide) ?_
          refine x_icmpN_ge hC d_Code_join_58 (tgt := 108) (by decide) (by omega) (by omega) (fun c_58 => ?_) (fun c_58 => ?_)
          · skip
            exact hret _ _ _ _ _ _ d_Code_join_108 (by decide) (by decide) (⟨ln1, gr1, rfl, rfl, h0, h2, h5, h6, fun j hj => kd j (by omega), hag⟩)
          · skip
            have hbi := hgr i (by omega)
            have hbl := hln i (by omega)
            have hgi : gr1 i = gr i := kh i (by omega) (by omega)
            have hli : ln1 i = ln i := kl i (by omega) (by omega)
            refine x_aload_n hC d_Code_join_61 rfl rfl ?_
            refine x_getf hC kf_Code_24 h0 rfl d_Code_join_62 ?_
            refine x_iload hC d_Code_join_65 rfl ?_
            refine x_iald hC h5 (j := i) ⟨rfl, by omega, by omega⟩ (x := nI (gr1 (i))) rfl d_Code_join_67 ?_
            refine x_iload_n hC d_Code_join_68 rfl rfl ?_
            refine x_icmpN_eq hC d_Code_join_69 (tgt := 83) (by decide) (by omega) (by omega) (fun c_69 => ?_) (fun c_69 => ?_)
            · skip
              refine x_aload_n hC d_Code_join_83 rfl rfl ?_
              refine x_getf hC kf_Code_24 h0 rfl d_Code_join_84 ?_
              refine x_iload hC d_Code_join_87 rfl ?_
              refine x_iload_n hC d_Code_join_89 rfl rfl ?_
              refine x_iast hC h5 (j := i) ⟨rfl, by omega, by omega⟩ d_Code_join_90 (g1 := fun b9 => nI (updN gr1 (i) (min a b) b9)) (x_updN _ _ _) ?_
              generalize egp : updN gr1 (i) (min a b) = gp
              generalize e5 : xup Fh54 (c + 5) (.inr (0, 8, fun b9 => .int (nI (gp b9)))) = F5
              have h0 : F5 (c) = some (.inl (1, [.ref (c + 1), .ref (c + 2), .ref (c + 3), .ref (c + 4), .ref (c + 5), .ref (c + 6), .int (nI (js + (gw a + gw b)))])) := by rw [← e5]; exact (xup_ne (by omega)).trans h0
              have h2 : F5 (c + 2) = some (.inr (0, 8, fun b9 => .int (nI (ln1 b9)))) := by rw [← e5]; exact (xup_ne (by omega)).trans h2
              have h5 : F5 (c + 5) = some (.inr (0, 8, fun b9 => .int (nI (gp b9)))) := by rw [← e5]; exact xup_eq
              have h6 : F5 (c + 6) = some (.inr (0, 8, fun b9 => .int (nI ((updN gw (min a b) (gw a + gw b)) b9)))) := by rw [← e5]; exact (xup_ne (by omega)).trans h6
              have hag : ∀ a9 : Nat, (a9 < c ∨ c + 1 ≤ a9) → (a9 < c + 2 ∨ c + 2 + 1 ≤ a9) → (a9 < c + 5 ∨ c + 5 + 2 ≤ a9) → F5 a9 = F a9 := fun a9 q0 q1 q2 => by rw [← e5]; exact (xup_ne (by omega)).trans (hag a9 q0 q1 q2)
              refine x_aload_n hC d_Code_join_91 rfl rfl ?_
              refine x_getf hC kf_Code_15 h0 rfl d_Code_join_92 ?_
              refine x_iload hC d_Code_join_95 rfl ?_
              refine x_dup2 hC d_Code_join_97 rfl rfl ?_
              refine x_iald hC h2 (j := i) ⟨rfl, by omega, by omega⟩ (x := nI (ln1 (i))) rfl d_Code_join_98 ?_
              refine x_iconst hC d_Code_join_99 (v := nI 1) (by decide) ?_
              refine x_iadd hC d_Code_join_100 (v := (nI (ln1 (i) + 1))) (x_addN (by omega)) ?_
              refine x_iast hC h2 (j := i) ⟨rfl, by omega, by omega⟩ d_Code_join_101 (g1 := fun b9 => nI (updN ln1 (i) (ln1 (i) + 1) b9)) (x_updN _ _ _) ?_
              generalize egl : updN ln1 (i) (ln1 (i) + 1) = gl
              generalize e7 : xup F5 (c + 2) (.inr (0, 8, fun b9 => .int (nI (gl b9)))) = F7
              have h0 : F7 (c) = some (.inl (1, [.ref (c + 1), .ref (c + 2), .ref (c + 3), .ref (c + 4), .ref (c + 5), .ref (c + 6), .int (nI (js + (gw a + gw b)))])) := by rw [← e7]; exact (xup_ne (by omega)).trans h0
              have h2 : F7 (c + 2) = some (.inr (0, 8, fun b9 => .int (nI (gl b9)))) := by rw [← e7]; exact xup_eq
              have h5 : F7 (c + 5) = some (.inr (0, 8, fun b9 => .int (nI (gp b9)))) := by rw [← e7]; exact (xup_ne (by omega)).trans h5
              have h6 : F7 (c + 6) = some (.inr (0, 8, fun b9 => .int (nI ((updN gw (min a b) (gw a + gw b)) b9)))) := by rw [← e7]; exact (xup_ne (by omega)).trans h6
              have hag : ∀ a9 : Nat, (a9 < c ∨ c + 1 ≤ a9) → (a9 < c + 2 ∨ c + 2 + 1 ≤ a9) → (a9 < c + 5 ∨ c + 5 + 2 ≤ a9) → F7 a9 = F a9 := fun a9 q0 q1 q2 => by rw [← e7]; exact (xup_ne (by omega)).trans (hag a9 q0 q1 q2)
              refine x_iinc hC d_Code_join_102 rfl (v := (nI (i + 1))) (x_incN 1) (Nat.le_of_ble_eq_true rfl) (L1 := [some (.ref c), some (.int (nI (a))), some (.int (nI (b))), some (.int (nI (min a b))), some (.int (nI (i + 1)))]) rfl ?_
              refine x_goto hC d_Code_join_105 (tgt := 54) (by decide) ?_
              exact ih_54 F7 (i + 1) (gp) (gl) h0 h2 h5 h6 hag (by omega) (fun j hj hj8 => by first | exact kh j (by omega) hj8 | (rw [← egp, updN_ne (by omega)]; exact kh j (by omega) hj8)) (fun j hj hj8 => by first | exact kl j (by omega) hj8 | (rw [← egl, updN_ne (by omega)]; exact kl j (by omega) hj8)) (fun j hj => (Nat.lt_or_ge j i).elim (fun q => by first | exact kd j q | (rw [← egp, ← egl, updN_ne (by omega), updN_ne (by omega)]; exact kd j q)) (fun q => by rw [show j = i by omega]; first | (rw [← egp, ← egl, updN_eq, updN_eq, if_pos (by omega), if_pos (by omega)]; exact ⟨rfl, by omega⟩) | (rw [if_neg (by omega), if_neg (by omega)]; exact ⟨hgi, hli⟩))) (by omega)
            · skip
              refine x_aload_n hC d_Code_join_72 rfl rfl ?_
              refine x_getf hC kf_Code_24 h0 rfl d_Code_join_73 ?_
              refine x_iload hC d_Code_join_76 rfl ?_
              refine x_iald hC h5 (j := i) ⟨rfl, by omega, by omega⟩ (x := nI (gr1 (i))) rfl d_Code_join_78 ?_
              refine x_iload_n hC d_Code_join_79 rfl rfl ?_
              refine x_icmpN_ne hC d_Code_join_80 (tgt := 102) (by decide) (by omega) (by omega) (fun c_80 => ?_) (fun c_80 => ?_)
              · skip
                refine x_iinc hC d_Code_join_102 rfl (v := (nI (i + 1))) (x_incN 1) (Nat.le_of_ble_eq_true rfl) (L1 := [some (.ref c), some (.int (nI (a))), some (.int (nI (b))), some (.int (nI (min a b))), some (.int (nI (i + 1)))]) rfl ?_
                refine x_goto hC d_Code_join_105 (tgt := 54) (by decide) ?_
                exact ih_54 Fh54 (i + 1) (gr1) (ln1) h0 h2 h5 h6 hag (by omega) (fun j hj hj8 => by first | exact kh j (by omega) hj8 | (rw [← egp, updN_ne (by omega)]; exact kh j (by omega) hj8)) (fun j hj hj8 => by first | exact kl j (by omega) hj8 | (rw [← egl, updN_ne (by omega)]; exact kl j (by omega) hj8)) (fun j hj => (Nat.lt_or_ge j i).elim (fun q => by first | exact kd j q | (rw [← egp, ← egl, updN_ne (by omega), updN_ne (by omega)]; exact kd j q)) (fun q => by rw [show j = i by omega]; first | (rw [← egp, ← egl, updN_eq, updN_eq, if_pos (by omega), if_pos (by omega)]; exact ⟨rfl, by omega⟩) | (rw [if_neg (by omega), if_neg (by omega)]; exact ⟨hgi, hli⟩))) (by omega)
              · skip
                refine x_aload_n hC d_Code_join_83 rfl rfl ?_
                refine x_getf hC kf_Code_24 h0 rfl d_Code_join_84 ?_
                refine x_iload hC d_Code_join_87 rfl ?_
                refine x_iload_n hC d_Code_join_89 rfl rfl ?_
                refine x_iast hC h5 (j := i) ⟨rfl, by omega, by omega⟩ d_Code_join_90 (g1 := fun b9 => nI (updN gr1 (i) (min a b) b9)) (x_updN _ _ _) ?_
                generalize egp : updN gr1 (i) (min a b) = gp
                generalize e9 : xup Fh54 (c + 5) (.inr (0, 8, fun b9 => .int (nI (gp b9)))) = F9
                have h0 : F9 (c) = some (.inl (1, [.ref (c + 1), .ref (c + 2), .ref (c + 3), .ref (c + 4), .ref (c + 5), .ref (c + 6), .int (nI (js + (gw a + gw b)))])) := by rw [← e9]; exact (xup_ne (by omega)).trans h0
                have h2 : F9 (c + 2) = some (.inr (0, 8, fun b9 => .int (nI (ln1 b9)))) := by rw [← e9]; exact (xup_ne (by omega)).trans h2
                have h5 : F9 (c + 5) = some (.inr (0, 8, fun b9 => .int (nI (gp b9)))) := by rw [← e9]; exact xup_eq
                have h6 : F9 (c + 6) = some (.inr (0, 8, fun b9 => .int (nI ((updN gw (min a b) (gw a + gw b)) b9)))) := by rw [← e9]; exact (xup_ne (by omega)).trans h6
                have hag : ∀ a9 : Nat, (a9 < c ∨ c + 1 ≤ a9) → (a9 < c + 2 ∨ c + 2 + 1 ≤ a9) → (a9 < c + 5 ∨ c + 5 + 2 ≤ a9) → F9 a9 = F a9 := fun a9 q0 q1 q2 => by rw [← e9]; exact (xup_ne (by omega)).trans (hag a9 q0 q1 q2)
                refine x_aload_n hC d_Code_join_91 rfl rfl ?_
                refine x_getf hC kf_Code_15 h0 rfl d_Code_join_92 ?_
                refine x_iload hC d_Code_join_95 rfl ?_
                refine x_dup2 hC d_Code_join_97 rfl rfl ?_
                refine x_iald hC h2 (j := i) ⟨rfl, by omega, by omega⟩ (x := nI (ln1 (i))) rfl d_Code_join_98 ?_
                refine x_iconst hC d_Code_join_99 (v := nI 1) (by decide) ?_
                refine x_iadd hC d_Code_join_100 (v := (nI (ln1 (i) + 1))) (x_addN (by omega)) ?_
                refine x_iast hC h2 (j := i) ⟨rfl, by omega, by omega⟩ d_Code_join_101 (g1 := fun b9 => nI (updN ln1 (i) (ln1 (i) + 1) b9)) (x_updN _ _ _) ?_
                generalize egl : updN ln1 (i) (ln1 (i) + 1) = gl
                generalize e11 : xup F9 (c + 2) (.inr (0, 8, fun b9 => .int (nI (gl b9)))) = F11
                have h0 : F11 (c) = some (.inl (1, [.ref (c + 1), .ref (c + 2), .ref (c + 3), .ref (c + 4), .ref (c + 5), .ref (c + 6), .int (nI (js + (gw a + gw b)))])) := by rw [← e11]; exact (xup_ne (by omega)).trans h0
                have h2 : F11 (c + 2) = some (.inr (0, 8, fun b9 => .int (nI (gl b9)))) := by rw [← e11]; exact xup_eq
                have h5 : F11 (c + 5) = some (.inr (0, 8, fun b9 => .int (nI (gp b9)))) := by rw [← e11]; exact (xup_ne (by omega)).trans h5
                have h6 : F11 (c + 6) = some (.inr (0, 8, fun b9 => .int (nI ((updN gw (min a b) (gw a + gw b)) b9)))) := by rw [← e11]; exact (xup_ne (by omega)).trans h6
                have hag : ∀ a9 : Nat, (a9 < c ∨ c + 1 ≤ a9) → (a9 < c + 2 ∨ c + 2 + 1 ≤ a9) → (a9 < c + 5 ∨ c + 5 + 2 ≤ a9) → F11 a9 = F a9 := fun a9 q0 q1 q2 => by rw [← e11]; exact (xup_ne (by omega)).trans (hag a9 q0 q1 q2)
                refine x_iinc hC d_Code_join_102 rfl (v := (nI (i + 1))) (x_incN 1) (Nat.le_of_ble_eq_true rfl) (L1 := [some (.ref c), some (.int (nI (a))), some (.int (nI (b))), some (.int (nI (min a b))), some (.int (nI (i + 1)))]) rfl ?_
                refine x_goto hC d_Code_join_105 (tgt := 54) (by decide) ?_
                exact ih_54 F11 (i + 1) (gp) (gl) h0 h2 h5 h6 hag (by omega) (fun j hj hj8 => by first | exact kh j (by omega) hj8 | (rw [← egp, updN_ne (by omega)]; exact kh j (by omega) hj8)) (fun j hj hj8 => by first | exact kl j (by omega) hj8 | (rw [← egl, updN_ne (by omega)]; exact kl j (by omega) hj8)) (fun j hj => (Nat.lt_or_ge j i).elim (fun q => by first | exact kd j q | (rw [← egp, ← egl, updN_ne (by omega), updN_ne (by omega)]; exact kd j q)) (fun q => by rw [show j = i by omega]; first | (rw [← egp, ← egl, updN_eq, updN_eq, if_pos (by omega), if_pos (by omega)]; exact ⟨rfl, by omega⟩) | (rw [if_neg (by omega), if_neg (by omega)]; exact ⟨hgi, hli⟩))) (by omega)
      exact loop_54 (8 - 0 + 1) F3 (0) (gr) (ln) h0 h2 h5 h6 hag (by omega) (fun _ _ _ => rfl) (fun _ _ _ => rfl) (fun _ hj => absurd hj (by omega)) (by omega)
    · skip
      exact absurd c_7 (fun e => by rw [show (-1 : Int32) = xo 8 from rfl, xo_eqN (by omega) (by omega)] at e; omega)

theorem cntN_t {p : Nat → Bool} {k : Nat} (h : p k = true) : cntN p (k + 1) = cntN p k + 1 := by rw [cntN, if_pos h]
theorem cntN_f {p : Nat → Bool} {k : Nat} (h : ¬ p k = true) : cntN p (k + 1) = cntN p k := by rw [cntN, if_neg h, Nat.add_zero]
theorem hJs_ext {s : hS} {gr gw : Nat → Nat} (h1 : ∀ j, j < 8 → gr j = s.1 j) (h2 : ∀ j, j < 8 → gw j = s.2.1 j) : lowN gr gw 8 8 = hJa s ∧ lowN gr gw (hJa s) 8 = hJb s := ⟨lowN_ext 8 8 (by omega) h1 h2, lowN_ext _ 8 (by omega) h1 h2⟩
theorem hJs_step {s : hS} {gr gw ln gr1 ln1 : Nat → Nat} {pa pb : Nat} (hpa : pa = hJa s) (hpb : pb = hJb s) (ha : pa < 8) (hb : pb < 8) (h : ∀ j, j < 8 → gr j = s.1 j ∧ gw j = s.2.1 j ∧ ln j = s.2.2.1 j) (hk : ∀ j, j < 8 → gr1 j = (if gr j = pa ∨ gr j = pb then min pa pb else gr j) ∧ ln1 j = (if gr j = pa ∨ gr j = pb then ln j + 1 else ln j)) :
    (∀ j, j < 8 → gr1 j = (hJs s).1 j ∧ (updN gw (min pa pb) (gw pa + gw pb)) j = (hJs s).2.1 j ∧ ln1 j = (hJs s).2.2.1 j) ∧ gw pa + gw pb = s.2.1 (hJa s) + s.2.1 (hJb s) := by
  have e1 : gw pa + gw pb = s.2.1 (hJa s) + s.2.1 (hJb s) := by rw [(h pa ha).2.1, (h pb hb).2.1, hpa, hpb]
  refine ⟨fun j hj => ⟨?_, ?_, ?_⟩, e1⟩
  · rw [(hk j hj).1, (h j hj).1, hpa, hpb]
    rfl
  · rw [e1]
    show updN gw (min pa pb) _ j = updN s.2.1 (min (hJa s) (hJb s)) _ j
    rw [← hpa, ← hpb]
    by_cases e : j = min pa pb
    · rw [e, updN_eq, updN_eq]
    · rw [updN_ne e, updN_ne e]
      exact (h j hj).2.1
  · rw [(hk j hj).2, (h j hj).1, (h j hj).2.2, hpa, hpb]
    rfl
theorem lvl_0 {ln : Nat → Nat} (h : ∀ j, j < 8 → 1 ≤ ln j) : cntN (fun i => decide (ln i < 1)) 8 = 0 ∧ sumN (fun i => if ln i < 1 then 2 ^ (1 - 1 - ln i) else 0) 8 = 0 := by
  constructor
  · rw [cntN_ext (q := fun _ => false) 8 (fun j hj => by have := h j hj; exact decide_eq_false (by omega))]
    rfl
  · rw [sumN_ext (g := fun _ => 0) 8 (fun j hj => by have := h j hj; exact if_neg (by omega))]
    rfl
theorem d_Code_joinAll_0 : decode prog_4_method_4_code 0 = .ok (.iconst 0, 1) := by decide +kernel
theorem d_Code_joinAll_1 : decode prog_4_method_4_code 1 = .ok (.istore_n 1, 1) := by decide +kernel
theorem d_Code_joinAll_2 : decode prog_4_method_4_code 2 = .ok (.iload_n 1, 1) := by decide +kernel
theorem d_Code_joinAll_3 : decode prog_4_method_4_code 3 = .ok (.bipush 8, 2) := by decide +kernel
theorem d_Code_joinAll_5 : decode prog_4_method_4_code 5 = .ok (.if_icmp .ge 35, 3) := by decide +kernel
theorem d_Code_joinAll_8 : decode prog_4_method_4_code 8 = .ok (.aload_n 0, 1) := by decide +kernel
theorem d_Code_joinAll_9 : decode prog_4_method_4_code 9 = .ok (.getfield 24, 3) := by decide +kernel
theorem d_Code_joinAll_12 : decode prog_4_method_4_code 12 = .ok (.iload_n 1, 1) := by decide +kernel
theorem d_Code_joinAll_13 : decode prog_4_method_4_code 13 = .ok (.iload_n 1, 1) := by decide +kernel
theorem d_Code_joinAll_14 : decode prog_4_method_4_code 14 = .ok (.iastore, 1) := by decide +kernel
theorem d_Code_joinAll_15 : decode prog_4_method_4_code 15 = .ok (.aload_n 0, 1) := by decide +kernel
theorem d_Code_joinAll_16 : decode prog_4_method_4_code 16 = .ok (.getfield 27, 3) := by decide +kernel
theorem d_Code_joinAll_19 : decode prog_4_method_4_code 19 = .ok (.iload_n 1, 1) := by decide +kernel
theorem d_Code_joinAll_20 : decode prog_4_method_4_code 20 = .ok (.aload_n 0, 1) := by decide +kernel
theorem d_Code_joinAll_21 : decode prog_4_method_4_code 21 = .ok (.getfield 9, 3) := by decide +kernel
theorem d_Code_joinAll_24 : decode prog_4_method_4_code 24 = .ok (.iload_n 1, 1) := by decide +kernel
theorem d_Code_joinAll_25 : decode prog_4_method_4_code 25 = .ok (.iaload, 1) := by decide +kernel
theorem d_Code_joinAll_26 : decode prog_4_method_4_code 26 = .ok (.iastore, 1) := by decide +kernel
theorem d_Code_joinAll_27 : decode prog_4_method_4_code 27 = .ok (.aload_n 0, 1) := by decide +kernel
theorem d_Code_joinAll_28 : decode prog_4_method_4_code 28 = .ok (.getfield 15, 3) := by decide +kernel
theorem d_Code_joinAll_31 : decode prog_4_method_4_code 31 = .ok (.iload_n 1, 1) := by decide +kernel
theorem d_Code_joinAll_32 : decode prog_4_method_4_code 32 = .ok (.iconst 0, 1) := by decide +kernel
theorem d_Code_joinAll_33 : decode prog_4_method_4_code 33 = .ok (.iastore, 1) := by decide +kernel
theorem d_Code_joinAll_34 : decode prog_4_method_4_code 34 = .ok (.iinc 1 1, 3) := by decide +kernel
theorem d_Code_joinAll_37 : decode prog_4_method_4_code 37 = .ok (.goto (-35), 3) := by decide +kernel
theorem d_Code_joinAll_40 : decode prog_4_method_4_code 40 = .ok (.aload_n 0, 1) := by decide +kernel
theorem d_Code_joinAll_41 : decode prog_4_method_4_code 41 = .ok (.iconst 0, 1) := by decide +kernel
theorem d_Code_joinAll_42 : decode prog_4_method_4_code 42 = .ok (.putfield 33, 3) := by decide +kernel
theorem d_Code_joinAll_45 : decode prog_4_method_4_code 45 = .ok (.iconst 1, 1) := by decide +kernel
theorem d_Code_joinAll_46 : decode prog_4_method_4_code 46 = .ok (.istore_n 1, 1) := by decide +kernel
theorem d_Code_joinAll_47 : decode prog_4_method_4_code 47 = .ok (.iload_n 1, 1) := by decide +kernel
theorem d_Code_joinAll_48 : decode prog_4_method_4_code 48 = .ok (.bipush 8, 2) := by decide +kernel
theorem d_Code_joinAll_50 : decode prog_4_method_4_code 50 = .ok (.if_icmp .ge 25, 3) := by decide +kernel
theorem d_Code_joinAll_53 : decode prog_4_method_4_code 53 = .ok (.aload_n 0, 1) := by decide +kernel
theorem d_Code_joinAll_54 : decode prog_4_method_4_code 54 = .ok (.iconst (-1), 1) := by decide +kernel
theorem d_Code_joinAll_55 : decode prog_4_method_4_code 55 = .ok (.invokevirtual 43, 3) := by decide +kernel
theorem d_Code_joinAll_58 : decode prog_4_method_4_code 58 = .ok (.istore_n 2, 1) := by decide +kernel
theorem d_Code_joinAll_59 : decode prog_4_method_4_code 59 = .ok (.aload_n 0, 1) := by decide +kernel
theorem d_Code_joinAll_60 : decode prog_4_method_4_code 60 = .ok (.iload_n 2, 1) := by decide +kernel
theorem d_Code_joinAll_61 : decode prog_4_method_4_code 61 = .ok (.aload_n 0, 1) := by decide +kernel
theorem d_Code_joinAll_62 : decode prog_4_method_4_code 62 = .ok (.iload_n 2, 1) := by decide +kernel
theorem d_Code_joinAll_63 : decode prog_4_method_4_code 63 = .ok (.invokevirtual 43, 3) := by decide +kernel
theorem d_Code_joinAll_66 : decode prog_4_method_4_code 66 = .ok (.invokevirtual 47, 3) := by decide +kernel
theorem d_Code_joinAll_69 : decode prog_4_method_4_code 69 = .ok (.iinc 1 1, 3) := by decide +kernel
theorem d_Code_joinAll_72 : decode prog_4_method_4_code 72 = .ok (.goto (-25), 3) := by decide +kernel
theorem d_Code_joinAll_75 : decode prog_4_method_4_code 75 = .ok (.return_, 1) := by decide +kernel
set_option maxHeartbeats 4000000 in
set_option maxRecDepth 20000 in
theorem c_Code_joinAll {P : xP} {F : xF} {z : Nat} {c : Nat} {w : Nat → Nat} {ln : Nat → Nat} {vl : Nat → Nat} {od : Nat → Nat} {js : Nat} (hc : xCd F (c) (w) (ln) (vl) (od) (js))  : xM P xy_Code_joinAll [.ref c] F (z) 0 0 (fun r9 F9 z9 => r9 = none ∧ z9 = z ∧ xCd F9 (c) (w) ((hLen w)) (vl) (od) ((hSum w)) ∧ (∀ a9 : Nat, (a9 < c ∨ c + 7 ≤ a9) → F9 a9 = F a9)) := by
  refine xM_v rfl (Nat.le_of_ble_eq_true rfl) (L0 := [some (.ref c), none, none]) rfl rfl fun Θ hC hin hret => ?_
  have hag : ∀ a9 : Nat, (a9 < c ∨ c + 7 ≤ a9) → F a9 = F a9 := fun a9 _ => rfl
  obtain ⟨h0, ⟨g1, h1, k1⟩, ⟨g2, h2, k2⟩, ⟨g3, h3, k3⟩, ⟨g4, h4, k4⟩, ⟨g5x, g5, h5, k5⟩, ⟨g6x, g6, h6, k6⟩, hbd, hjs⟩ := id hc
  have hw9 : ∀ j, j < 8 → w j ≤ 99 := fun j hj => (hbd j hj).1
  refine x_iconst hC d_Code_joinAll_0 (v := nI 0) (by decide) ?_
  refine x_istore_n hC d_Code_joinAll_1 rfl (Nat.le_of_ble_eq_true rfl) (L1 := [some (.ref c), some (.int (nI 0)), none]) rfl ?_
  have loop_2 : ∀ (m9 : Nat) (Fh2 : xF) (i : Nat) (p5 : Nat → Nat) (p6 : Nat → Nat) (p2 : Nat → Nat), (Fh2 (c) = some (.inl (1, [.ref (c + 1), .ref (c + 2), .ref (c + 3), .ref (c + 4), .ref (c + 5), .ref (c + 6), .int (nI (js))]))) → (Fh2 (c + 1) = some (.inr (0, 8, fun b9 => .int (nI (g1 b9))))) → (Fh2 (c + 2) = some (.inr (0, 8, fun b9 => .int (nI (p2 b9))))) → (Fh2 (c + 3) = some (.inr (0, 8, fun b9 => .int (nI (g3 b9))))) → (Fh2 (c + 4) = some (.inr (0, 8, fun b9 => .int (nI (g4 b9))))) → (Fh2 (c + 5) = some (.inr (0, 8, fun b9 => .int (nI (p5 b9))))) → (Fh2 (c + 6) = some (.inr (0, 8, fun b9 => .int (nI (p6 b9))))) → (∀ a9 : Nat, (a9 < c ∨ c + 7 ≤ a9) → Fh2 a9 = F a9) → (i ≤ 8) → (∀ q, q < i → p5 q = q ∧ p6 q = w q ∧ p2 q = 0) → (8 - i < m9) → xX P Θ 2 [some (.ref c), some (.int (nI (i))), none] [] Fh2 (z) 0 0 := by
    intro m9
    induction m9 with
    | zero => intros; omega
    | succ m9 ih_2 =>
      intro Fh2 i p5 p6 p2 h0 h1 h2 h3 h4 h5 h6 hag hi kz hm_2
      refine x_iload_n hC d_Code_joinAll_2 rfl rfl ?_
      refine x_bipush hC d_Code_joinAll_3 (v := nI 8) (by decide) ?_
      refine x_icmpN_ge hC d_Code_joinAll_5 (tgt := 40) (by decide) (by omega) (by omega) (fun c_5 => ?_) (fun c_5 => ?_)
      · skip
        refine x_aload_n hC d_Code_joinAll_40 rfl rfl ?_
        refine x_iconst hC d_Code_joinAll_41 (v := nI 0) (by decide) ?_
        refine x_putf hC kf_Code_33 h0 (Nat.le_of_ble_eq_true rfl) rfl rfl d_Code_joinAll_42 (fs1 := [.ref (c + 1), .ref (c + 2), .ref (c + 3), .ref (c + 4), .ref (c + 5), .ref (c + 6), .int (nI 0)]) rfl ?_
        generalize e1 : xup Fh2 (c) (.inl (1, [.ref (c + 1), .ref (c + 2), .ref (c + 3), .ref (c + 4), .ref (c + 5), .ref (c + 6), .int (nI 0)])) = F1
        have h0 : F1 (c) = some (.inl (1, [.ref (c + 1), .ref (c + 2), .ref (c + 3), .ref (c + 4), .ref (c + 5), .ref (c + 6), .int (nI 0)])) := by rw [← e1]; exact xup_eq
        have h1 : F1 (c + 1) = some (.inr (0, 8, fun b9 => .int (nI (g1 b9)))) := by rw [← e1]; exact (xup_ne (by omega)).trans h1
        have h2 : F1 (c + 2) = some (.inr (0, 8, fun b9 => .int (nI (p2 b9)))) := by rw [← e1]; exact (xup_ne (by omega)).trans h2
        have h3 : F1 (c + 3) = some (.inr (0, 8, fun b9 => .int (nI (g3 b9)))) := by rw [← e1]; exact (xup_ne (by omega)).trans h3
        have h4 : F1 (c + 4) = some (.inr (0, 8, fun b9 => .int (nI (g4 b9)))) := by rw [← e1]; exact (xup_ne (by omega)).trans h4
        have h5 : F1 (c + 5) = some (.inr (0, 8, fun b9 => .int (nI (p5 b9)))) := by rw [← e1]; exact (xup_ne (by omega)).trans h5
        have h6 : F1 (c + 6) = some (.inr (0, 8, fun b9 => .int (nI (p6 b9)))) := by rw [← e1]; exact (xup_ne (by omega)).trans h6
        have hag : ∀ a9 : Nat, (a9 < c ∨ c + 7 ≤ a9) → F1 a9 = F a9 := fun a9 q0 => by rw [← e1]; exact (xup_ne (by omega)).trans (hag a9 q0)
        refine x_iconst hC d_Code_joinAll_45 (v := nI 1) (by decide) ?_
        refine x_istore_n hC d_Code_joinAll_46 rfl (Nat.le_of_ble_eq_true rfl) (L1 := [some (.ref c), some (.int (nI 1)), none]) rfl ?_
        have loop_47 : ∀ (m9 : Nat) (Fh47 : xF) (i : Nat) (a5 : Nat → Nat) (a6 : Nat → Nat) (a2 : Nat → Nat) (js1 : Nat), (Fh47 (c) = some (.inl (1, [.ref (c + 1), .ref (c + 2), .ref (c + 3), .ref (c + 4), .ref (c + 5), .ref (c + 6), .int (nI (js1))]))) → (Fh47 (c + 1) = some (.inr (0, 8, fun b9 => .int (nI (g1 b9))))) → (Fh47 (c + 2) = some (.inr (0, 8, fun b9 => .int (nI (a2 b9))))) → (Fh47 (c + 3) = some (.inr (0, 8, fun b9 => .int (nI (g3 b9))))) → (Fh47 (c + 4) = some (.inr (0, 8, fun b9 => .int (nI (g4 b9))))) → (Fh47 (c + 5) = some (.inr (0, 8, fun b9 => .int (nI (a5 b9))))) → (Fh47 (c + 6) = some (.inr (0, 8, fun b9 => .int (nI (a6 b9))))) → (∀ a9 : Nat, (a9 < c ∨ c + 7 ≤ a9) → Fh47 a9 = F a9) → (1 ≤ i ∧ i ≤ 8) → (∀ j, j < 8 → a5 j = (hJ w (i - 1)).1 j ∧ a6 j = (hJ w (i - 1)).2.1 j ∧ a2 j = (hJ w (i - 1)).2.2.1 j) → (js1 = (hJ w (i - 1)).2.2.2) → (8 - i < m9) → xX P Θ 47 [some (.ref c), some (.int (nI (i))), none] [] Fh47 (z) 0 0 := by
          intro m9
          induction m9 with
          | zero => intros; omega
          | succ m9 ih_47 =>
            intro Fh47 i a5 a6 a2 js1 h0 h1 h2 h3 h4 h5 h6 hag hi ka kj hm_47
            refine x_iload_n hC d_Code_joinAll_47 rfl rfl ?_
            refine x_bipush hC d_Code_joinAll_48 (v := nI 8) (by decide) ?_
            refine x_icmpN_ge hC d_Code_joinAll_50 (tgt := 75) (by decide) (by omega) (by omega) (fun c_50 => ?_) (fun c_50 => ?_)
            · skip
              refine hret _ _ _ _ _ _ d_Code_joinAll_75 (by decide) (by decide) ?_
              have e : i = 8 := by omega
              subst e
              exact ⟨rfl, rfl, ⟨by rw [kj] at h0; exact h0, ⟨g1, h1, k1⟩, ⟨a2, h2, fun j hj => (ka j hj).2.2⟩, ⟨g3, h3, k3⟩, ⟨g4, h4, k4⟩, ⟨_, a5, h5, fun _ _ => rfl⟩, ⟨_, a6, h6, fun _ _ => rfl⟩, fun j hj => ⟨(hbd j hj).1, hLen_7 w hj, (hbd j hj).2.2⟩, by have := hJ_sb hw9 (t := 7) (by omega); show hSum w < _; unfold hSum; omega⟩, hag⟩
            · skip
              have h2w := hJ_two w (show i - 1 < 7 by omega)
              have hJb1 := hJ_bd hw9 (i - 1) (by omega)
              have hI := hInv_J w (i - 1) (by omega)
              have e12 := hJs_ext (s := hJ w (i - 1)) (fun j hj => (ka j hj).1) (fun j hj => (ka j hj).2.1)
              obtain ⟨pa, hpa⟩ : ∃ q, q = hJa (hJ w (i - 1)) := ⟨_, rfl⟩
              obtain ⟨pb, hpb⟩ : ∃ q, q = hJb (hJ w (i - 1)) := ⟨_, rfl⟩
              rw [← hpa, ← hpb] at h2w e12
              refine x_aload_n hC d_Code_joinAll_53 rfl rfl ?_
              refine x_iconst hC d_Code_joinAll_54 (v := -1) (by decide) ?_
              refine x_top (v := (xo 8)) xo_8.symm ?_
              refine x_callV hC kv_Code_43 (c_Code_lowestGroup (h0 := h0) (h5 := h5) (h6 := h6) (hb := by omega) (hgr := fun j hj => by rw [(ka j hj).1]; exact (hI.1 j hj).1) (hgw := fun j hj => by rw [(ka j hj).2.1]; have := hJb1 j hj; omega) (b := 8)) h0 rfl rfl (by decide) rfl rfl rfl (Nat.le_of_ble_eq_true rfl) (by decide) d_Code_joinAll_55 (fun r9 F9 z9 hp9 => ?_)
              obtain ⟨rfl, h9b, h9c⟩ := hp9
              rw [h9b, h9c]
              clear h9b h9c F9 z9
              refine x_top (v := (nI (pa))) (by rw [e12.1]; exact xo_of h2w.1) ?_
              refine x_istore_n hC d_Code_joinAll_58 rfl (Nat.le_of_ble_eq_true rfl) (L1 := [some (.ref c), some (.int (nI (i))), some (.int (nI (pa)))]) rfl ?_
              refine x_aload_n hC d_Code_joinAll_59 rfl rfl ?_
              refine x_iload_n hC d_Code_joinAll_60 rfl rfl ?_
              refine x_aload_n hC d_Code_joinAll_61 rfl rfl ?_
              refine x_iload_n hC d_Code_joinAll_62 rfl rfl ?_
              refine x_top (v := (xo pa)) (xo_of h2w.1).symm ?_
              refine x_callV hC kv_Code_43 (c_Code_lowestGroup (h0 := h0) (h5 := h5) (h6 := h6) (hb := by have := h2w.1; omega) (hgr := fun j hj => by rw [(ka j hj).1]; exact (hI.1 j hj).1) (hgw := fun j hj => by rw [(ka j hj).2.1]; have := hJb1 j hj; omega) (b := pa)) h0 rfl rfl (by decide) rfl rfl rfl (Nat.le_of_ble_eq_true rfl) (by decide) d_Code_joinAll_63 (fun r9 F9 z9 hp9 => ?_)
              obtain ⟨rfl, h9b, h9c⟩ := hp9
              rw [h9b, h9c]
              clear h9b h9c F9 z9
              refine x_top (v := (nI (pb))) (by rw [e12.2]; exact xo_of h2w.2.1) ?_
              refine x_callV hC kv_Code_47 (c_Code_join (h0 := h0) (h2 := h2) (h5 := h5) (h6 := h6) (ha := h2w.1) (hb := h2w.2.1) (hgr := fun j hj => by rw [(ka j hj).1]; exact (hI.1 j hj).1) (hln := fun j hj => by rw [(ka j hj).2.2]; have := hI.2.2.1 j hj; omega) (hgw := fun j hj => by rw [(ka j hj).2.1]; have := hJb1 j hj; omega) (hjs := by rw [kj]; have := hJ_sb hw9 (t := i - 1) (by omega); omega)) h0 rfl rfl (by decide) rfl rfl rfl (Nat.le_of_ble_eq_true rfl) (by decide) d_Code_joinAll_66 (fun r9 F9 z9 hp9 => ?_)
              obtain ⟨ln1_66, gr1_66, rfl, h9c, j0, j1, j2, j3, pk_66, hag9⟩ := hp9
              rw [h9c]
              clear h9c z9
              generalize F9 = F2 at *
              have h1 : F2 (c + 1) = some (.inr (0, 8, fun b9 => .int (nI (g1 b9)))) := (hag9 _ (by omega) (by omega) (by omega)).trans h1
              have h3 : F2 (c + 3) = some (.inr (0, 8, fun b9 => .int (nI (g3 b9)))) := (hag9 _ (by omega) (by omega) (by omega)).trans h3
              have h4 : F2 (c + 4) = some (.inr (0, 8, fun b9 => .int (nI (g4 b9)))) := (hag9 _ (by omega) (by omega) (by omega)).trans h4
              have h0 : F2 (c) = some (.inl (1, [.ref (c + 1), .ref (c + 2), .ref (c + 3), .ref (c + 4), .ref (c + 5), .ref (c + 6), .int (nI (js1 + (a6 pa + a6 pb)))])) := j0
              have h2 : F2 (c + 2) = some (.inr (0, 8, fun b9 => .int (nI (ln1_66 b9)))) := j1
              have h5 : F2 (c + 5) = some (.inr (0, 8, fun b9 => .int (nI (gr1_66 b9)))) := j2
              have h6 : F2 (c + 6) = some (.inr (0, 8, fun b9 => .int (nI ((updN a6 (min pa pb) (a6 pa + a6 pb)) b9)))) := j3
              have hag : ∀ a9 : Nat, (a9 < c ∨ c + 7 ≤ a9) → F2 a9 = F a9 := fun a9 q0 => (hag9 a9 (by omega) (by omega) (by omega)).trans (hag a9 q0)
              have hg_66 := hag9
              clear hag9
              have st9 := hJs_step hpa hpb h2w.1 h2w.2.1 ka pk_66
              refine x_iinc hC d_Code_joinAll_69 rfl (v := (nI (i + 1))) (x_incN 1) (Nat.le_of_ble_eq_true rfl) (L1 := [some (.ref c), some (.int (nI (i + 1))), some (.int (nI (pa)))]) rfl ?_
              refine x_goto hC d_Code_joinAll_72 (tgt := 47) (by decide) ?_
              refine x_forget (L1 := [some (.ref c), some (.int (nI (i + 1))), none]) ⟨Or.inr rfl, ⟨Or.inr rfl, ⟨Or.inl rfl, trivial⟩⟩⟩ ?_
              exact ih_47 F2 (i + 1) (gr1_66) ((updN a6 (min pa pb) (a6 pa + a6 pb))) (ln1_66) (js1 + (a6 pa + a6 pb)) h0 h1 h2 h3 h4 h5 h6 hag (by omega) (by rw [show i + 1 - 1 = i by omega, hJ_succ w hi.1]; exact st9.1) (by rw [show i + 1 - 1 = i by omega, hJ_succ w hi.1, st9.2, kj]; rfl) (by omega)
        exact loop_47 (8 - 1 + 1) F1 (1) (p5) (p6) (p2) (0) h0 h1 h2 h3 h4 h5 h6 hag (by omega) (fun j hj => kz j (by omega)) (rfl) (by omega)
      · skip
        refine x_aload_n hC d_Code_joinAll_8 rfl rfl ?_
        refine x_getf hC kf_Code_24 h0 rfl d_Code_joinAll_9 ?_
        refine x_iload_n hC d_Code_joinAll_12 rfl rfl ?_
        refine x_iload_n hC d_Code_joinAll_13 rfl rfl ?_
        refine x_iast hC h5 (j := i) ⟨rfl, by omega, by omega⟩ d_Code_joinAll_14 (g1 := fun b9 => nI (updN p5 (i) (i) b9)) (x_updN _ _ _) ?_
        generalize eq5 : updN p5 (i) (i) = q5
        generalize e4 : xup Fh2 (c + 5) (.inr (0, 8, fun b9 => .int (nI (q5 b9)))) = F4
        have h0 : F4 (c) = some (.inl (1, [.ref (c + 1), .ref (c + 2), .ref (c + 3), .ref (c + 4), .ref (c + 5), .ref (c + 6), .int (nI (js))])) := by rw [← e4]; exact (xup_ne (by omega)).trans h0
        have h1 : F4 (c + 1) = some (.inr (0, 8, fun b9 => .int (nI (g1 b9)))) := by rw [← e4]; exact (xup_ne (by omega)).trans h1
        have h2 : F4 (c + 2) = some (.inr (0, 8, fun b9 => .int (nI (p2 b9)))) := by rw [← e4]; exact (xup_ne (by omega)).trans h2
        have h3 : F4 (c + 3) = some (.inr (0, 8, fun b9 => .int (nI (g3 b9)))) := by rw [← e4]; exact (xup_ne (by omega)).trans h3
        have h4 : F4 (c + 4) = some (.inr (0, 8, fun b9 => .int (nI (g4 b9)))) := by rw [← e4]; exact (xup_ne (by omega)).trans h4
        have h5 : F4 (c + 5) = some (.inr (0, 8, fun b9 => .int (nI (q5 b9)))) := by rw [← e4]; exact xup_eq
        have h6 : F4 (c + 6) = some (.inr (0, 8, fun b9 => .int (nI (p6 b9)))) := by rw [← e4]; exact (xup_ne (by omega)).trans h6
        have hag : ∀ a9 : Nat, (a9 < c ∨ c + 7 ≤ a9) → F4 a9 = F a9 := fun a9 q0 => by rw [← e4]; exact (xup_ne (by omega)).trans (hag a9 q0)
        refine x_aload_n hC d_Code_joinAll_15 rfl rfl ?_
        refine x_getf hC kf_Code_27 h0 rfl d_Code_joinAll_16 ?_
        refine x_iload_n hC d_Code_joinAll_19 rfl rfl ?_
        refine x_aload_n hC d_Code_joinAll_20 rfl rfl ?_
        refine x_getf hC kf_Code_9 h0 rfl d_Code_joinAll_21 ?_
        refine x_iload_n hC d_Code_joinAll_24 rfl rfl ?_
        refine x_iald hC h1 (j := i) ⟨rfl, by omega, by omega⟩ (x := nI (g1 (i))) rfl d_Code_joinAll_25 ?_
        refine x_iast hC h6 (j := i) ⟨rfl, by omega, by omega⟩ d_Code_joinAll_26 (g1 := fun b9 => nI (updN p6 (i) (g1 (i)) b9)) (x_updN _ _ _) ?_
        generalize eq6 : updN p6 (i) (g1 (i)) = q6
        generalize e6 : xup F4 (c + 6) (.inr (0, 8, fun b9 => .int (nI (q6 b9)))) = F6
        have h0 : F6 (c) = some (.inl (1, [.ref (c + 1), .ref (c + 2), .ref (c + 3), .ref (c + 4), .ref (c + 5), .ref (c + 6), .int (nI (js))])) := by rw [← e6]; exact (xup_ne (by omega)).trans h0
        have h1 : F6 (c + 1) = some (.inr (0, 8, fun b9 => .int (nI (g1 b9)))) := by rw [← e6]; exact (xup_ne (by omega)).trans h1
        have h2 : F6 (c + 2) = some (.inr (0, 8, fun b9 => .int (nI (p2 b9)))) := by rw [← e6]; exact (xup_ne (by omega)).trans h2
        have h3 : F6 (c + 3) = some (.inr (0, 8, fun b9 => .int (nI (g3 b9)))) := by rw [← e6]; exact (xup_ne (by omega)).trans h3
        have h4 : F6 (c + 4) = some (.inr (0, 8, fun b9 => .int (nI (g4 b9)))) := by rw [← e6]; exact (xup_ne (by omega)).trans h4
        have h5 : F6 (c + 5) = some (.inr (0, 8, fun b9 => .int (nI (q5 b9)))) := by rw [← e6]; exact (xup_ne (by omega)).trans h5
        have h6 : F6 (c + 6) = some (.inr (0, 8, fun b9 => .int (nI (q6 b9)))) := by rw [← e6]; exact xup_eq
        have hag : ∀ a9 : Nat, (a9 < c ∨ c + 7 ≤ a9) → F6 a9 = F a9 := fun a9 q0 => by rw [← e6]; exact (xup_ne (by omega)).trans (hag a9 q0)
        refine x_aload_n hC d_Code_joinAll_27 rfl rfl ?_
        refine x_getf hC kf_Code_15 h0 rfl d_Code_joinAll_28 ?_
        refine x_iload_n hC d_Code_joinAll_31 rfl rfl ?_
        refine x_iconst hC d_Code_joinAll_32 (v := nI 0) (by decide) ?_
        refine x_iast hC h2 (j := i) ⟨rfl, by omega, by omega⟩ d_Code_joinAll_33 (g1 := fun b9 => nI (updN p2 (i) (0) b9)) (x_updN _ _ _) ?_
        generalize eq2 : updN p2 (i) (0) = q2
        generalize e8 : xup F6 (c + 2) (.inr (0, 8, fun b9 => .int (nI (q2 b9)))) = F8
        have h0 : F8 (c) = some (.inl (1, [.ref (c + 1), .ref (c + 2), .ref (c + 3), .ref (c + 4), .ref (c + 5), .ref (c + 6), .int (nI (js))])) := by rw [← e8]; exact (xup_ne (by omega)).trans h0
        have h1 : F8 (c + 1) = some (.inr (0, 8, fun b9 => .int (nI (g1 b9)))) := by rw [← e8]; exact (xup_ne (by omega)).trans h1
        have h2 : F8 (c + 2) = some (.inr (0, 8, fun b9 => .int (nI (q2 b9)))) := by rw [← e8]; exact xup_eq
        have h3 : F8 (c + 3) = some (.inr (0, 8, fun b9 => .int (nI (g3 b9)))) := by rw [← e8]; exact (xup_ne (by omega)).trans h3
        have h4 : F8 (c + 4) = some (.inr (0, 8, fun b9 => .int (nI (g4 b9)))) := by rw [← e8]; exact (xup_ne (by omega)).trans h4
        have h5 : F8 (c + 5) = some (.inr (0, 8, fun b9 => .int (nI (q5 b9)))) := by rw [← e8]; exact (xup_ne (by omega)).trans h5
        have h6 : F8 (c + 6) = some (.inr (0, 8, fun b9 => .int (nI (q6 b9)))) := by rw [← e8]; exact (xup_ne (by omega)).trans h6
        have hag : ∀ a9 : Nat, (a9 < c ∨ c + 7 ≤ a9) → F8 a9 = F a9 := fun a9 q0 => by rw [← e8]; exact (xup_ne (by omega)).trans (hag a9 q0)
        refine x_iinc hC d_Code_joinAll_34 rfl (v := (nI (i + 1))) (x_incN 1) (Nat.le_of_ble_eq_true rfl) (L1 := [some (.ref c), some (.int (nI (i + 1))), none]) rfl ?_
        refine x_goto hC d_Code_joinAll_37 (tgt := 2) (by decide) ?_
        exact ih_2 F8 (i + 1) (q5) (q6) (q2) h0 h1 h2 h3 h4 h5 h6 hag (by omega) (fun q hq => (Nat.lt_or_ge q i).elim (fun e => by rw [← eq5, ← eq6, ← eq2, updN_ne (by omega), updN_ne (by omega), updN_ne (by omega)]; exact kz q e) (fun e => by rw [← eq5, ← eq6, ← eq2, show q = i by omega, updN_eq, updN_eq, updN_eq]; exact ⟨rfl, k1 i (by omega), rfl⟩)) (by omega)
  exact loop_2 (8 - 0 + 1) F (0) (g5) (g6) (g2) h0 h1 h2 h3 h4 h5 h6 hag (by omega) (fun _ hq => absurd hq (by omega)) (by omega)

theorem d_Code_assignValues_0 : decode prog_4_method_7_code 0 = .ok (.iconst 0, 1) := by decide +kernel
theorem d_Code_assignValues_1 : decode prog_4_method_7_code 1 = .ok (.istore_n 1, 1) := by decide +kernel
theorem d_Code_assignValues_2 : decode prog_4_method_7_code 2 = .ok (.iconst 0, 1) := by decide +kernel
theorem d_Code_assignValues_3 : decode prog_4_method_7_code 3 = .ok (.istore_n 2, 1) := by decide +kernel
theorem d_Code_assignValues_4 : decode prog_4_method_7_code 4 = .ok (.iconst 1, 1) := by decide +kernel
theorem d_Code_assignValues_5 : decode prog_4_method_7_code 5 = .ok (.istore_n 3, 1) := by decide +kernel
theorem d_Code_assignValues_6 : decode prog_4_method_7_code 6 = .ok (.iload_n 3, 1) := by decide +kernel
theorem d_Code_assignValues_7 : decode prog_4_method_7_code 7 = .ok (.bipush 7, 2) := by decide +kernel
theorem d_Code_assignValues_9 : decode prog_4_method_7_code 9 = .ok (.if_icmp .gt 68, 3) := by decide +kernel
theorem d_Code_assignValues_12 : decode prog_4_method_7_code 12 = .ok (.iload_n 2, 1) := by decide +kernel
theorem d_Code_assignValues_13 : decode prog_4_method_7_code 13 = .ok (.iconst 1, 1) := by decide +kernel
theorem d_Code_assignValues_14 : decode prog_4_method_7_code 14 = .ok (.ishl, 1) := by decide +kernel
theorem d_Code_assignValues_15 : decode prog_4_method_7_code 15 = .ok (.istore_n 2, 1) := by decide +kernel
theorem d_Code_assignValues_16 : decode prog_4_method_7_code 16 = .ok (.iconst 0, 1) := by decide +kernel
theorem d_Code_assignValues_17 : decode prog_4_method_7_code 17 = .ok (.istore 4, 2) := by decide +kernel
theorem d_Code_assignValues_19 : decode prog_4_method_7_code 19 = .ok (.iload 4, 2) := by decide +kernel
theorem d_Code_assignValues_21 : decode prog_4_method_7_code 21 = .ok (.bipush 8, 2) := by decide +kernel
theorem d_Code_assignValues_23 : decode prog_4_method_7_code 23 = .ok (.if_icmp .ge 48, 3) := by decide +kernel
theorem d_Code_assignValues_26 : decode prog_4_method_7_code 26 = .ok (.aload_n 0, 1) := by decide +kernel
theorem d_Code_assignValues_27 : decode prog_4_method_7_code 27 = .ok (.getfield 15, 3) := by decide +kernel
theorem d_Code_assignValues_30 : decode prog_4_method_7_code 30 = .ok (.iload 4, 2) := by decide +kernel
theorem d_Code_assignValues_32 : decode prog_4_method_7_code 32 = .ok (.iaload, 1) := by decide +kernel
theorem d_Code_assignValues_33 : decode prog_4_method_7_code 33 = .ok (.iload_n 3, 1) := by decide +kernel
theorem d_Code_assignValues_34 : decode prog_4_method_7_code 34 = .ok (.if_icmp .ne 31, 3) := by decide +kernel
theorem d_Code_assignValues_37 : decode prog_4_method_7_code 37 = .ok (.iload_n 1, 1) := by decide +kernel
theorem d_Code_assignValues_38 : decode prog_4_method_7_code 38 = .ok (.bipush 8, 2) := by decide +kernel
theorem d_Code_assignValues_40 : decode prog_4_method_7_code 40 = .ok (.if_icmp .ge 25, 3) := by decide +kernel
theorem d_Code_assignValues_43 : decode prog_4_method_7_code 43 = .ok (.aload_n 0, 1) := by decide +kernel
theorem d_Code_assignValues_44 : decode prog_4_method_7_code 44 = .ok (.getfield 18, 3) := by decide +kernel
theorem d_Code_assignValues_47 : decode prog_4_method_7_code 47 = .ok (.iload 4, 2) := by decide +kernel
theorem d_Code_assignValues_49 : decode prog_4_method_7_code 49 = .ok (.iload_n 2, 1) := by decide +kernel
theorem d_Code_assignValues_50 : decode prog_4_method_7_code 50 = .ok (.iastore, 1) := by decide +kernel
theorem d_Code_assignValues_51 : decode prog_4_method_7_code 51 = .ok (.aload_n 0, 1) := by decide +kernel
theorem d_Code_assignValues_52 : decode prog_4_method_7_code 52 = .ok (.getfield 21, 3) := by decide +kernel
theorem d_Code_assignValues_55 : decode prog_4_method_7_code 55 = .ok (.iload_n 1, 1) := by decide +kernel
theorem d_Code_assignValues_56 : decode prog_4_method_7_code 56 = .ok (.iload 4, 2) := by decide +kernel
theorem d_Code_assignValues_58 : decode prog_4_method_7_code 58 = .ok (.iastore, 1) := by decide +kernel
theorem d_Code_assignValues_59 : decode prog_4_method_7_code 59 = .ok (.iinc 2 1, 3) := by decide +kernel
theorem d_Code_assignValues_62 : decode prog_4_method_7_code 62 = .ok (.iinc 1 1, 3) := by decide +kernel
theorem d_Code_assignValues_65 : decode prog_4_method_7_code 65 = .ok (.iinc 4 1, 3) := by decide +kernel
theorem d_Code_assignValues_68 : decode prog_4_method_7_code 68 = .ok (.goto (-49), 3) := by decide +kernel
theorem d_Code_assignValues_71 : decode prog_4_method_7_code 71 = .ok (.iinc 3 1, 3) := by decide +kernel
theorem d_Code_assignValues_74 : decode prog_4_method_7_code 74 = .ok (.goto (-68), 3) := by decide +kernel
theorem d_Code_assignValues_77 : decode prog_4_method_7_code 77 = .ok (.return_, 1) := by decide +kernel
set_option maxHeartbeats 4000000 in
set_option maxRecDepth 20000 in
theorem c_Code_assignValues {P : xP} {F : xF} {z : Nat} {c : Nat} {w : Nat → Nat} {ln : Nat → Nat} {vl : Nat → Nat} {od : Nat → Nat} {js : Nat} (hc : xCd F (c) (w) (ln) (vl) (od) (js)) (hl1 : ∀ j, j < 8 → 1 ≤ ln j) : xM P xy_Code_assignValues [.ref c] F (z) 0 0 (fun r9 F9 z9 => r9 = none ∧ z9 = z ∧ xCd F9 (c) (w) (ln) ((hVal ln)) ((hOrd ln)) (js) ∧ (∀ a9 : Nat, (a9 < c ∨ c + 7 ≤ a9) → F9 a9 = F a9)) := by
  refine xM_v rfl (Nat.le_of_ble_eq_true rfl) (L0 := [some (.ref c), none, none, none, none]) rfl rfl fun Θ hC hin hret => ?_
  have hag : ∀ a9 : Nat, (a9 < c ∨ c + 7 ≤ a9) → F a9 = F a9 := fun a9 _ => rfl
  obtain ⟨h0, ⟨g1, h1, k1⟩, ⟨g2, h2, k2⟩, ⟨g3, h3, k3⟩, ⟨g4, h4, k4⟩, ⟨g5x, g5, h5, k5⟩, ⟨g6x, g6, h6, k6⟩, hbd, hjs⟩ := id hc
  refine x_iconst hC d_Code_assignValues_0 (v := nI 0) (by decide) ?_
  refine x_istore_n hC d_Code_assignValues_1 rfl (Nat.le_of_ble_eq_true rfl) (L1 := [some (.ref c), some (.int (nI 0)), none, none, none]) rfl ?_
  refine x_iconst hC d_Code_assignValues_2 (v := nI 0) (by decide) ?_
  refine x_istore_n hC d_Code_assignValues_3 rfl (Nat.le_of_ble_eq_true rfl) (L1 := [some (.ref c), some (.int (nI 0)), some (.int (nI 0)), none, none]) rfl ?_
  refine x_iconst hC d_Code_assignValues_4 (v := nI 1) (by decide) ?_
  refine x_istore_n hC d_Code_assignValues_5 rfl (Nat.le_of_ble_eq_true rfl) (L1 := [some (.ref c), some (.int (nI 0)), some (.int (nI 0)), some (.int (nI 1)), none]) rfl ?_
  have loop_6 : ∀ (m9 : Nat) (Fh6 : xF) (l : Nat) (rk : Nat) (nx : Nat) (a3 : Nat → Nat) (a4 : Nat → Nat), (Fh6 (c) = some (.inl (1, [.ref (c + 1), .ref (c + 2), .ref (c + 3), .ref (c + 4), .ref (c + 5), .ref (c + 6), .int (nI (js))]))) → (Fh6 (c + 1) = some (.inr (0, 8, fun b9 => .int (nI (g1 b9))))) → (Fh6 (c + 2) = some (.inr (0, 8, fun b9 => .int (nI (g2 b9))))) → (Fh6 (c + 3) = some (.inr (0, 8, fun b9 => .int (nI (a3 b9))))) → (Fh6 (c + 4) = some (.inr (0, 8, fun b9 => .int (nI (a4 b9))))) → (Fh6 (c + 5) = some (.inr (0, 8, fun b9 => .int (nI (g5 b9))))) → (Fh6 (c + 6) = some (.inr (0, 8, fun b9 => .int (nI (g6 b9))))) → (∀ a9 : Nat, (a9 < c ∨ c + 7 ≤ a9) → Fh6 a9 = F a9) → (1 ≤ l ∧ l ≤ 8) → (rk = cntN (fun i => decide (ln i < l)) 8) → (nx = sumN (fun i => if ln i < l then 2 ^ (l - 1 - ln i) else 0) 8) → (∀ j, j < 8 → ln j < l → a3 j = hVal ln j ∧ a4 (rkN ln j) = j) → (8 - l < m9) → xX P Θ 6 [some (.ref c), some (.int (nI (rk))), some (.int (nI (nx))), some (.int (nI (l))), none] [] Fh6 (z) 0 0 := by
    intro m9
    induction m9 with
    | zero => intros; omega
    | succ m9 ih_6 =>
      intro Fh6 l rk nx a3 a4 h0 h1 h2 h3 h4 h5 h6 hag hl kr kn kd hm_6
      refine x_iload_n hC d_Code_assignValues_6 rfl rfl ?_
      refine x_bipush hC d_Code_assignValues_7 (v := nI 7) (by decide) ?_
      refine x_icmpN_gt hC d_Code_assignValues_9 (tgt := 77) (by decide) (by omega) (by omega) (fun c_9 => ?_) (fun c_9 => ?_)
      · skip
        exact hret _ _ _ _ _ _ d_Code_assignValues_77 (by decide) (by decide) (⟨rfl, rfl, ⟨h0, ⟨g1, h1, k1⟩, ⟨g2, h2, k2⟩, ⟨a3, h3, fun j hj => (kd j hj (by have := (hbd j hj).2.1; omega)).1⟩, ⟨a4, h4, fun r hr => by have h8 := hOrd_8 ln hr; have h9 := (kd _ h8.1 (by have := (hbd _ h8.1).2.1; omega)).2; rw [h8.2] at h9; exact h9⟩, ⟨_, g5, h5, k5⟩, ⟨_, g6, h6, k6⟩, fun j hj => ⟨(hbd j hj).1, (hbd j hj).2.1, by have := hVal_bd (hbd j hj).2.1; omega, (hOrd_8 ln hj).1⟩, hjs⟩, hag⟩)
      · skip
        have hnx : nx * 2 ≤ 1024 := by rw [kn, lvl_dbl hl.1]; exact lvl_bd ln (by omega)
        refine x_iload_n hC d_Code_assignValues_12 rfl rfl ?_
        refine x_iconst hC d_Code_assignValues_13 (v := nI 1) (by decide) ?_
        refine x_ishl hC d_Code_assignValues_14 (v := (nI (nx * 2))) (x_shlN 1 (by omega) (by omega) (by rw [Nat.pow_one])) ?_
        refine x_istore_n hC d_Code_assignValues_15 rfl (Nat.le_of_ble_eq_true rfl) (L1 := [some (.ref c), some (.int (nI (rk))), some (.int (nI (nx * 2))), some (.int (nI (l))), none]) rfl ?_
        refine x_iconst hC d_Code_assignValues_16 (v := nI 0) (by decide) ?_
        refine x_istore hC d_Code_assignValues_17 (Nat.le_of_ble_eq_true rfl) (L1 := [some (.ref c), some (.int (nI (rk))), some (.int (nI (nx * 2))), some (.int (nI (l))), some (.int (nI 0))]) rfl ?_
        have loop_19 : ∀ (m9 : Nat) (Fh19 : xF) (s : Nat) (rk2 : Nat) (nx2 : Nat) (b3 : Nat → Nat) (b4 : Nat → Nat), (Fh19 (c) = some (.inl (1, [.ref (c + 1), .ref (c + 2), .ref (c + 3), .ref (c + 4), .ref (c + 5), .ref (c + 6), .int (nI (js))]))) → (Fh19 (c + 1) = some (.inr (0, 8, fun b9 => .int (nI (g1 b9))))) → (Fh19 (c + 2) = some (.inr (0, 8, fun b9 => .int (nI (g2 b9))))) → (Fh19 (c + 3) = some (.inr (0, 8, fun b9 => .int (nI (b3 b9))))) → (Fh19 (c + 4) = some (.inr (0, 8, fun b9 => .int (nI (b4 b9))))) → (Fh19 (c + 5) = some (.inr (0, 8, fun b9 => .int (nI (g5 b9))))) → (Fh19 (c + 6) = some (.inr (0, 8, fun b9 => .int (nI (g6 b9))))) → (∀ a9 : Nat, (a9 < c ∨ c + 7 ≤ a9) → Fh19 a9 = F a9) → (s ≤ 8) → (rk2 = cntN (fun i => decide (ln i < l)) 8 + cntN (fun i => decide (ln i = l)) s) → (nx2 = sumN (fun i => if ln i < l then 2 ^ (l - ln i) else 0) 8 + cntN (fun i => decide (ln i = l)) s) → (∀ j, j < 8 → (ln j < l ∨ (ln j = l ∧ j < s)) → b3 j = hVal ln j ∧ b4 (rkN ln j) = j) → (8 - s < m9) → xX P Θ 19 [some (.ref c), some (.int (nI (rk2))), some (.int (nI (nx2))), some (.int (nI (l))), some (.int (nI (s)))] [] Fh19 (z) 0 0 := by
          intro m9
          induction m9 with
          | zero => intros; omega
          | succ m9 ih_19 =>
            intro Fh19 s rk2 nx2 b3 b4 h0 h1 h2 h3 h4 h5 h6 hag hs kr2 kn2 kd2 hm_19
            have hc9 := cntN_le (fun i => decide (ln i = l)) s
            have hc8 := cntN_le (fun i => decide (ln i < l)) 8
            have hb9 := lvl_bd ln (show l ≤ 7 by omega)
            have hrk2 : rk2 ≤ 16 := by rw [kr2]; omega
            have hnx2 : nx2 ≤ 1032 := by rw [kn2]; omega
            refine x_iload hC d_Code_assignValues_19 rfl ?_
            refine x_bipush hC d_Code_assignValues_21 (v := nI 8) (by decide) ?_
            refine x_icmpN_ge hC d_Code_assignValues_23 (tgt := 71) (by decide) (by omega) (by omega) (fun c_23 => ?_) (fun c_23 => ?_)
            · skip
              refine x_iinc hC d_Code_assignValues_71 rfl (v := (nI (l + 1))) (x_incN 1) (Nat.le_of_ble_eq_true rfl) (L1 := [some (.ref c), some (.int (nI (rk2))), some (.int (nI (nx2))), some (.int (nI (l + 1))), some (.int (nI (s)))]) rfl ?_
              refine x_goto hC d_Code_assignValues_74 (tgt := 6) (by decide) ?_
              refine x_forget (L1 := [some (.ref c), some (.int (nI (rk2))), some (.int (nI (nx2))), some (.int (nI (l + 1))), none]) ⟨Or.inr rfl, ⟨Or.inr rfl, ⟨Or.inr rfl, ⟨Or.inr rfl, ⟨Or.inl rfl, trivial⟩⟩⟩⟩⟩ ?_
              exact ih_6 Fh19 (l + 1) (rk2) (nx2) (b3) (b4) h0 h1 h2 h3 h4 h5 h6 hag (by omega) (by rw [kr2, show s = 8 by omega, lvl_cnt]) (by rw [kn2, show s = 8 by omega, lvl_next, show l + 1 - 1 = l by omega]) (fun j hj8 hj => kd2 j hj8 (by omega)) (by omega)
            · skip
              have hb2 : g2 s ≤ 7 := by rw [k2 s (by omega)]; exact (hbd s (by omega)).2.1
              refine x_aload_n hC d_Code_assignValues_26 rfl rfl ?_
              refine x_getf hC kf_Code_15 h0 rfl d_Code_assignValues_27 ?_
              refine x_iload hC d_Code_assignValues_30 rfl ?_
              refine x_iald hC h2 (j := s) ⟨rfl, by omega, by omega⟩ (x := nI (g2 (s))) rfl d_Code_assignValues_32 ?_
              refine x_iload_n hC d_Code_assignValues_33 rfl rfl ?_
              refine x_icmpN_ne hC d_Code_assignValues_34 (tgt := 65) (by decide) (by omega) (by omega) (fun c_34 => ?_) (fun c_34 => ?_)
              · skip
                refine x_iinc hC d_Code_assignValues_65 rfl (v := (nI (s + 1))) (x_incN 1) (Nat.le_of_ble_eq_true rfl) (L1 := [some (.ref c), some (.int (nI (rk2))), some (.int (nI (nx2))), some (.int (nI (l))), some (.int (nI (s + 1)))]) rfl ?_
                refine x_goto hC d_Code_assignValues_68 (tgt := 19) (by decide) ?_
                exact ih_19 Fh19 (s + 1) (rk2) (nx2) (b3) (b4) h0 h1 h2 h3 h4 h5 h6 hag (by omega) (by first | (rw [cntN_t (p := fun i => decide (ln i = l)) (k := s) (decide_eq_true els), ← Nat.add_assoc, ← kr2]; done) | (rw [cntN_f (p := fun i => decide (ln i = l)) (k := s) (fun e => c_34 ((k2 s (by omega)).trans (of_decide_eq_true e))), ← kr2])) (by first | (rw [cntN_t (p := fun i => decide (ln i = l)) (k := s) (decide_eq_true els), ← Nat.add_assoc, ← kn2]; done) | (rw [cntN_f (p := fun i => decide (ln i = l)) (k := s) (fun e => c_34 ((k2 s (by omega)).trans (of_decide_eq_true e))), ← kn2])) (fun j hj8 hj => (Nat.lt_or_ge j s).elim (fun q => by first | (rw [← eq3, ← eq4, updN_ne (by omega), updN_ne (fun e => absurd (rk_inj hj8 (show s < 8 by omega) (e.trans er)) (by omega))]; exact kd2 j hj8 (by omega)) | exact kd2 j hj8 (by omega)) (fun q => (Nat.eq_or_lt_of_le q).elim (fun e => by first | (subst e; rw [← eq3, ← eq4, updN_eq, ← er, updN_eq]; exact ⟨ev, rfl⟩) | (subst e; exact kd2 s hj8 (Or.inl (hj.elim id (fun e9 => absurd ((k2 s hj8).trans e9.1) c_34))))) (fun e => by first | (rw [← eq3, ← eq4, updN_ne (by omega), updN_ne (fun e9 => absurd (rk_inj hj8 (show s < 8 by omega) (e9.trans er)) (by omega))]; exact kd2 j hj8 (by omega)) | exact kd2 j hj8 (by omega)))) (by omega)
              · skip
                have els : ln s = l := (k2 s (by omega)).symm.trans c_34
                have er : rk2 = rkN ln s := by rw [kr2, rk_lvl (by omega) els]
                have er8 : rk2 < 8 := by rw [er]; exact rk_8 (by omega)
                have ev : nx2 = hVal ln s := by rw [kn2, val_lvl (by omega) els]
                refine x_iload_n hC d_Code_assignValues_37 rfl rfl ?_
                refine x_bipush hC d_Code_assignValues_38 (v := nI 8) (by decide) ?_
                refine x_icmpN_ge hC d_Code_assignValues_40 (tgt := 65) (by decide) (by omega) (by omega) (fun c_40 => ?_) (fun c_40 => ?_)
                · skip
                  exact absurd c_40 (by omega)
                · skip
                  refine x_aload_n hC d_Code_assignValues_43 rfl rfl ?_
                  refine x_getf hC kf_Code_18 h0 rfl d_Code_assignValues_44 ?_
                  refine x_iload hC d_Code_assignValues_47 rfl ?_
                  refine x_iload_n hC d_Code_assignValues_49 rfl rfl ?_
                  refine x_iast hC h3 (j := s) ⟨rfl, by omega, by omega⟩ d_Code_assignValues_50 (g1 := fun b9 => nI (updN b3 (s) (nx2) b9)) (x_updN _ _ _) ?_
                  generalize eq3 : updN b3 (s) (nx2) = q3
                  generalize e2 : xup Fh19 (c + 3) (.inr (0, 8, fun b9 => .int (nI (q3 b9)))) = F2
                  have h0 : F2 (c) = some (.inl (1, [.ref (c + 1), .ref (c + 2), .ref (c + 3), .ref (c + 4), .ref (c + 5), .ref (c + 6), .int (nI (js))])) := by rw [← e2]; exact (xup_ne (by omega)).trans h0
                  have h1 : F2 (c + 1) = some (.inr (0, 8, fun b9 => .int (nI (g1 b9)))) := by rw [← e2]; exact (xup_ne (by omega)).trans h1
                  have h2 : F2 (c + 2) = some (.inr (0, 8, fun b9 => .int (nI (g2 b9)))) := by rw [← e2]; exact (xup_ne (by omega)).trans h2
                  have h3 : F2 (c + 3) = some (.inr (0, 8, fun b9 => .int (nI (q3 b9)))) := by rw [← e2]; exact xup_eq
                  have h4 : F2 (c + 4) = some (.inr (0, 8, fun b9 => .int (nI (b4 b9)))) := by rw [← e2]; exact (xup_ne (by omega)).trans h4
                  have h5 : F2 (c + 5) = some (.inr (0, 8, fun b9 => .int (nI (g5 b9)))) := by rw [← e2]; exact (xup_ne (by omega)).trans h5
                  have h6 : F2 (c + 6) = some (.inr (0, 8, fun b9 => .int (nI (g6 b9)))) := by rw [← e2]; exact (xup_ne (by omega)).trans h6
                  have hag : ∀ a9 : Nat, (a9 < c ∨ c + 7 ≤ a9) → F2 a9 = F a9 := fun a9 q0 => by rw [← e2]; exact (xup_ne (by omega)).trans (hag a9 q0)
                  refine x_aload_n hC d_Code_assignValues_51 rfl rfl ?_
                  refine x_getf hC kf_Code_21 h0 rfl d_Code_assignValues_52 ?_
                  refine x_iload_n hC d_Code_assignValues_55 rfl rfl ?_
                  refine x_iload hC d_Code_assignValues_56 rfl ?_
                  refine x_iast hC h4 (j := rk2) ⟨rfl, by omega, by omega⟩ d_Code_assignValues_58 (g1 := fun b9 => nI (updN b4 (rk2) (s) b9)) (x_updN _ _ _) ?_
                  generalize eq4 : updN b4 (rk2) (s) = q4
                  generalize e4 : xup F2 (c + 4) (.inr (0, 8, fun b9 => .int (nI (q4 b9)))) = F4
                  have h0 : F4 (c) = some (.inl (1, [.ref (c + 1), .ref (c + 2), .ref (c + 3), .ref (c + 4), .ref (c + 5), .ref (c + 6), .int (nI (js))])) := by rw [← e4]; exact (xup_ne (by omega)).trans h0
                  have h1 : F4 (c + 1) = some (.inr (0, 8, fun b9 => .int (nI (g1 b9)))) := by rw [← e4]; exact (xup_ne (by omega)).trans h1
                  have h2 : F4 (c + 2) = some (.inr (0, 8, fun b9 => .int (nI (g2 b9)))) := by rw [← e4]; exact (xup_ne (by omega)).trans h2
                  have h3 : F4 (c + 3) = some (.inr (0, 8, fun b9 => .int (nI (q3 b9)))) := by rw [← e4]; exact (xup_ne (by omega)).trans h3
                  have h4 : F4 (c + 4) = some (.inr (0, 8, fun b9 => .int (nI (q4 b9)))) := by rw [← e4]; exact xup_eq
                  have h5 : F4 (c + 5) = some (.inr (0, 8, fun b9 => .int (nI (g5 b9)))) := by rw [← e4]; exact (xup_ne (by omega)).trans h5
                  have h6 : F4 (c + 6) = some (.inr (0, 8, fun b9 => .int (nI (g6 b9)))) := by rw [← e4]; exact (xup_ne (by omega)).trans h6
                  have hag : ∀ a9 : Nat, (a9 < c ∨ c + 7 ≤ a9) → F4 a9 = F a9 := fun a9 q0 => by rw [← e4]; exact (xup_ne (by omega)).trans (hag a9 q0)
                  refine x_iinc hC d_Code_assignValues_59 rfl (v := (nI (nx2 + 1))) (x_incN 1) (Nat.le_of_ble_eq_true rfl) (L1 := [some (.ref c), some (.int (nI (rk2))), some (.int (nI (nx2 + 1))), some (.int (nI (l))), some (.int (nI (s)))]) rfl ?_
                  refine x_iinc hC d_Code_assignValues_62 rfl (v := (nI (rk2 + 1))) (x_incN 1) (Nat.le_of_ble_eq_true rfl) (L1 := [some (.ref c), some (.int (nI (rk2 + 1))), some (.int (nI (nx2 + 1))), some (.int (nI (l))), some (.int (nI (s)))]) rfl ?_
                  refine x_iinc hC d_Code_assignValues_65 rfl (v := (nI (s + 1))) (x_incN 1) (Nat.le_of_ble_eq_true rfl) (L1 := [some (.ref c), some (.int (nI (rk2 + 1))), some (.int (nI (nx2 + 1))), some (.int (nI (l))), some (.int (nI (s + 1)))]) rfl ?_
                  refine x_goto hC d_Code_assignValues_68 (tgt := 19) (by decide) ?_
                  exact ih_19 F4 (s + 1) (rk2 + 1) (nx2 + 1) (q3) (q4) h0 h1 h2 h3 h4 h5 h6 hag (by omega) (by first | (rw [cntN_t (p := fun i => decide (ln i = l)) (k := s) (decide_eq_true els), ← Nat.add_assoc, ← kr2]; done) | (rw [cntN_f (p := fun i => decide (ln i = l)) (k := s) (fun e => c_34 ((k2 s (by omega)).trans (of_decide_eq_true e))), ← kr2])) (by first | (rw [cntN_t (p := fun i => decide (ln i = l)) (k := s) (decide_eq_true els), ← Nat.add_assoc, ← kn2]; done) | (rw [cntN_f (p := fun i => decide (ln i = l)) (k := s) (fun e => c_34 ((k2 s (by omega)).trans (of_decide_eq_true e))), ← kn2])) (fun j hj8 hj => (Nat.lt_or_ge j s).elim (fun q => by first | (rw [← eq3, ← eq4, updN_ne (by omega), updN_ne (fun e => absurd (rk_inj hj8 (show s < 8 by omega) (e.trans er)) (by omega))]; exact kd2 j hj8 (by omega)) | exact kd2 j hj8 (by omega)) (fun q => (Nat.eq_or_lt_of_le q).elim (fun e => by first | (subst e; rw [← eq3, ← eq4, updN_eq, ← er, updN_eq]; exact ⟨ev, rfl⟩) | (subst e; exact kd2 s hj8 (Or.inl (hj.elim id (fun e9 => absurd ((k2 s hj8).trans e9.1) c_34))))) (fun e => by first | (rw [← eq3, ← eq4, updN_ne (by omega), updN_ne (fun e9 => absurd (rk_inj hj8 (show s < 8 by omega) (e9.trans er)) (by omega))]; exact kd2 j hj8 (by omega)) | exact kd2 j hj8 (by omega)))) (by omega)
        exact loop_19 (8 - 0 + 1) Fh6 (0) (rk) (nx * 2) (a3) (a4) h0 h1 h2 h3 h4 h5 h6 hag (by omega) (by rw [kr]; rfl) (by rw [kn, lvl_dbl hl.1]; rfl) (fun j hj h9 => kd j hj (by omega)) (by omega)
  exact loop_6 (8 - 1 + 1) F (1) (0) (0) (g3) (g4) h0 h1 h2 h3 h4 h5 h6 hag (by omega) ((lvl_0 hl1).1.symm) ((lvl_0 hl1).2.symm) (fun j hj h9 => absurd h9 (by have := hl1 j hj; omega)) (by omega)

theorem d_Code_derive_0 : decode prog_4_method_3_code 0 = .ok (.aload_n 0, 1) := by decide +kernel
theorem d_Code_derive_1 : decode prog_4_method_3_code 1 = .ok (.invokevirtual 37, 3) := by decide +kernel
theorem d_Code_derive_4 : decode prog_4_method_3_code 4 = .ok (.aload_n 0, 1) := by decide +kernel
theorem d_Code_derive_5 : decode prog_4_method_3_code 5 = .ok (.invokevirtual 40, 3) := by decide +kernel
theorem d_Code_derive_8 : decode prog_4_method_3_code 8 = .ok (.return_, 1) := by decide +kernel
set_option maxHeartbeats 4000000 in
set_option maxRecDepth 20000 in
theorem c_Code_derive {P : xP} {F : xF} {z : Nat} {c : Nat} {w : Nat → Nat} {ln : Nat → Nat} {vl : Nat → Nat} {od : Nat → Nat} {js : Nat} (hc : xCd F (c) (w) (ln) (vl) (od) (js))  : xM P xy_Code_derive [.ref c] F (z) 0 0 (fun r9 F9 z9 => r9 = none ∧ z9 = z ∧ xCd F9 (c) (w) ((hLen w)) ((hVal (hLen w))) ((hOrd (hLen w))) ((hSum w)) ∧ (∀ a9 : Nat, (a9 < c ∨ c + 7 ≤ a9) → F9 a9 = F a9)) := by
  refine xM_v rfl (Nat.le_of_ble_eq_true rfl) (L0 := [some (.ref c)]) rfl rfl fun Θ hC hin hret => ?_
  have hag : ∀ a9 : Nat, (a9 < c ∨ c + 7 ≤ a9) → F a9 = F a9 := fun a9 _ => rfl
  refine x_aload_n hC d_Code_derive_0 rfl rfl ?_
  refine x_callV hC kv_Code_37 (c_Code_joinAll (hc := hc)) hc.1 rfl rfl (by decide) rfl rfl rfl (Nat.le_of_ble_eq_true rfl) (by decide) d_Code_derive_1 (fun r9 F9 z9 hp9 => ?_)
  obtain ⟨rfl, h9c, j0, hag9⟩ := hp9
  rw [h9c]
  clear h9c z9
  generalize F9 = F1 at *
  have hc : xCd F1 (c) (w) ((hLen w)) (vl) (od) ((hSum w)) := j0
  have hag : ∀ a9 : Nat, (a9 < c ∨ c + 7 ≤ a9) → F1 a9 = F a9 := fun a9 q0 => (hag9 a9 (by omega)).trans (hag a9 q0)
  have hg_1 := hag9
  clear hag9
  refine x_aload_n hC d_Code_derive_4 rfl rfl ?_
  refine x_callV hC kv_Code_40 (c_Code_assignValues (hc := hc) (hl1 := fun j hj => hLen_1 w hj)) hc.1 rfl rfl (by decide) rfl rfl rfl (Nat.le_of_ble_eq_true rfl) (by decide) d_Code_derive_5 (fun r9 F9 z9 hp9 => ?_)
  obtain ⟨rfl, h9c, j0, hag9⟩ := hp9
  rw [h9c]
  clear h9c z9
  generalize F9 = F2 at *
  have hc : xCd F2 (c) (w) ((hLen w)) ((hVal (hLen w))) ((hOrd (hLen w))) ((hSum w)) := j0
  have hag : ∀ a9 : Nat, (a9 < c ∨ c + 7 ≤ a9) → F2 a9 = F a9 := fun a9 q0 => (hag9 a9 (by omega)).trans (hag a9 q0)
  have hg_5 := hag9
  clear hag9
  exact hret _ _ _ _ _ _ d_Code_derive_8 (by decide) (by decide) (⟨rfl, rfl, hc, hag⟩)

theorem d_Code_copyFrom_0 : decode prog_4_method_2_code 0 = .ok (.iconst 0, 1) := by decide +kernel
theorem d_Code_copyFrom_1 : decode prog_4_method_2_code 1 = .ok (.istore_n 2, 1) := by decide +kernel
theorem d_Code_copyFrom_2 : decode prog_4_method_2_code 2 = .ok (.iload_n 2, 1) := by decide +kernel
theorem d_Code_copyFrom_3 : decode prog_4_method_2_code 3 = .ok (.bipush 8, 2) := by decide +kernel
theorem d_Code_copyFrom_5 : decode prog_4_method_2_code 5 = .ok (.if_icmp .ge 57, 3) := by decide +kernel
theorem d_Code_copyFrom_8 : decode prog_4_method_2_code 8 = .ok (.aload_n 0, 1) := by decide +kernel
theorem d_Code_copyFrom_9 : decode prog_4_method_2_code 9 = .ok (.getfield 9, 3) := by decide +kernel
theorem d_Code_copyFrom_12 : decode prog_4_method_2_code 12 = .ok (.iload_n 2, 1) := by decide +kernel
theorem d_Code_copyFrom_13 : decode prog_4_method_2_code 13 = .ok (.aload_n 1, 1) := by decide +kernel
theorem d_Code_copyFrom_14 : decode prog_4_method_2_code 14 = .ok (.getfield 9, 3) := by decide +kernel
theorem d_Code_copyFrom_17 : decode prog_4_method_2_code 17 = .ok (.iload_n 2, 1) := by decide +kernel
theorem d_Code_copyFrom_18 : decode prog_4_method_2_code 18 = .ok (.iaload, 1) := by decide +kernel
theorem d_Code_copyFrom_19 : decode prog_4_method_2_code 19 = .ok (.iastore, 1) := by decide +kernel
theorem d_Code_copyFrom_20 : decode prog_4_method_2_code 20 = .ok (.aload_n 0, 1) := by decide +kernel
theorem d_Code_copyFrom_21 : decode prog_4_method_2_code 21 = .ok (.getfield 15, 3) := by decide +kernel
theorem d_Code_copyFrom_24 : decode prog_4_method_2_code 24 = .ok (.iload_n 2, 1) := by decide +kernel
theorem d_Code_copyFrom_25 : decode prog_4_method_2_code 25 = .ok (.aload_n 1, 1) := by decide +kernel
theorem d_Code_copyFrom_26 : decode prog_4_method_2_code 26 = .ok (.getfield 15, 3) := by decide +kernel
theorem d_Code_copyFrom_29 : decode prog_4_method_2_code 29 = .ok (.iload_n 2, 1) := by decide +kernel
theorem d_Code_copyFrom_30 : decode prog_4_method_2_code 30 = .ok (.iaload, 1) := by decide +kernel
theorem d_Code_copyFrom_31 : decode prog_4_method_2_code 31 = .ok (.iastore, 1) := by decide +kernel
theorem d_Code_copyFrom_32 : decode prog_4_method_2_code 32 = .ok (.aload_n 0, 1) := by decide +kernel
theorem d_Code_copyFrom_33 : decode prog_4_method_2_code 33 = .ok (.getfield 18, 3) := by decide +kernel
theorem d_Code_copyFrom_36 : decode prog_4_method_2_code 36 = .ok (.iload_n 2, 1) := by decide +kernel
theorem d_Code_copyFrom_37 : decode prog_4_method_2_code 37 = .ok (.aload_n 1, 1) := by decide +kernel
theorem d_Code_copyFrom_38 : decode prog_4_method_2_code 38 = .ok (.getfield 18, 3) := by decide +kernel
theorem d_Code_copyFrom_41 : decode prog_4_method_2_code 41 = .ok (.iload_n 2, 1) := by decide +kernel
theorem d_Code_copyFrom_42 : decode prog_4_method_2_code 42 = .ok (.iaload, 1) := by decide +kernel
theorem d_Code_copyFrom_43 : decode prog_4_method_2_code 43 = .ok (.iastore, 1) := by decide +kernel
theorem d_Code_copyFrom_44 : decode prog_4_method_2_code 44 = .ok (.aload_n 0, 1) := by decide +kernel
theorem d_Code_copyFrom_45 : decode prog_4_method_2_code 45 = .ok (.getfield 21, 3) := by decide +kernel
theorem d_Code_copyFrom_48 : decode prog_4_method_2_code 48 = .ok (.iload_n 2, 1) := by decide +kernel
theorem d_Code_copyFrom_49 : decode prog_4_method_2_code 49 = .ok (.aload_n 1, 1) := by decide +kernel
theorem d_Code_copyFrom_50 : decode prog_4_method_2_code 50 = .ok (.getfield 21, 3) := by decide +kernel
theorem d_Code_copyFrom_53 : decode prog_4_method_2_code 53 = .ok (.iload_n 2, 1) := by decide +kernel
theorem d_Code_copyFrom_54 : decode prog_4_method_2_code 54 = .ok (.iaload, 1) := by decide +kernel
theorem d_Code_copyFrom_55 : decode prog_4_method_2_code 55 = .ok (.iastore, 1) := by decide +kernel
theorem d_Code_copyFrom_56 : decode prog_4_method_2_code 56 = .ok (.iinc 2 1, 3) := by decide +kernel
theorem d_Code_copyFrom_59 : decode prog_4_method_2_code 59 = .ok (.goto (-57), 3) := by decide +kernel
theorem d_Code_copyFrom_62 : decode prog_4_method_2_code 62 = .ok (.aload_n 0, 1) := by decide +kernel
theorem d_Code_copyFrom_63 : decode prog_4_method_2_code 63 = .ok (.aload_n 1, 1) := by decide +kernel
theorem d_Code_copyFrom_64 : decode prog_4_method_2_code 64 = .ok (.getfield 33, 3) := by decide +kernel
theorem d_Code_copyFrom_67 : decode prog_4_method_2_code 67 = .ok (.putfield 33, 3) := by decide +kernel
theorem d_Code_copyFrom_70 : decode prog_4_method_2_code 70 = .ok (.return_, 1) := by decide +kernel
set_option maxHeartbeats 4000000 in
set_option maxRecDepth 20000 in
theorem c_Code_copyFrom {P : xP} {F : xF} {z : Nat} {c : Nat} {w : Nat → Nat} {ln : Nat → Nat} {vl : Nat → Nat} {od : Nat → Nat} {js : Nat} {o : Nat} {wo : Nat → Nat} {lo : Nat → Nat} {vo : Nat → Nat} {oo : Nat → Nat} {jo : Nat} (hc : xCd F (c) (w) (ln) (vl) (od) (js)) (ho : xCd F (o) (wo) (lo) (vo) (oo) (jo)) (hd : c + 7 ≤ o ∨ o + 7 ≤ c) : xM P xy_Code_copyFrom [.ref c, .ref o] F (z) 0 0 (fun r9 F9 z9 => r9 = none ∧ z9 = z ∧ xCd F9 (c) (wo) (lo) (vo) (oo) (jo) ∧ xCd F9 (o) (wo) (lo) (vo) (oo) (jo) ∧ (∀ a9 : Nat, (a9 < c ∨ c + 7 ≤ a9) → F9 a9 = F a9)) := by
  refine xM_v rfl (Nat.le_of_ble_eq_true rfl) (L0 := [some (.ref c), some (.ref o), none]) rfl rfl fun Θ hC hin hret => ?_
  have hag : ∀ a9 : Nat, (a9 < c ∨ c + 7 ≤ a9) → F a9 = F a9 := fun a9 _ => rfl
  obtain ⟨h0, ⟨g1, h1, k1⟩, ⟨g2, h2, k2⟩, ⟨g3, h3, k3⟩, ⟨g4, h4, k4⟩, ⟨g5x, g5, h5, k5⟩, ⟨g6x, g6, h6, k6⟩, hbd, hjs⟩ := id hc
  obtain ⟨m0, ⟨f1, m1, n1⟩, ⟨f2, m2, n2⟩, ⟨f3, m3, n3⟩, ⟨f4, m4, n4⟩, ⟨f5x, f5, m5, n5⟩, ⟨f6x, f6, m6, n6⟩, hbo⟩ := id ho
  refine x_iconst hC d_Code_copyFrom_0 (v := nI 0) (by decide) ?_
  refine x_istore_n hC d_Code_copyFrom_1 rfl (Nat.le_of_ble_eq_true rfl) (L1 := [some (.ref c), some (.ref o), some (.int (nI 0))]) rfl ?_
  have loop_2 : ∀ (m9 : Nat) (Fh2 : xF) (i : Nat) (p1 : Nat → Nat) (p2 : Nat → Nat) (p3 : Nat → Nat) (p4 : Nat → Nat), (Fh2 (c) = some (.inl (1, [.ref (c + 1), .ref (c + 2), .ref (c + 3), .ref (c + 4), .ref (c + 5), .ref (c + 6), .int (nI (js))]))) → (Fh2 (c + 1) = some (.inr (0, 8, fun b9 => .int (nI (p1 b9))))) → (Fh2 (c + 2) = some (.inr (0, 8, fun b9 => .int (nI (p2 b9))))) → (Fh2 (c + 3) = some (.inr (0, 8, fun b9 => .int (nI (p3 b9))))) → (Fh2 (c + 4) = some (.inr (0, 8, fun b9 => .int (nI (p4 b9))))) → (Fh2 (c + 5) = some (.inr (0, 8, fun b9 => .int (nI (g5 b9))))) → (Fh2 (c + 6) = some (.inr (0, 8, fun b9 => .int (nI (g6 b9))))) → (Fh2 (o) = some (.inl (1, [.ref (o + 1), .ref (o + 2), .ref (o + 3), .ref (o + 4), .ref (o + 5), .ref (o + 6), .int (nI (jo))]))) → (Fh2 (o + 1) = some (.inr (0, 8, fun b9 => .int (nI (f1 b9))))) → (Fh2 (o + 2) = some (.inr (0, 8, fun b9 => .int (nI (f2 b9))))) → (Fh2 (o + 3) = some (.inr (0, 8, fun b9 => .int (nI (f3 b9))))) → (Fh2 (o + 4) = some (.inr (0, 8, fun b9 => .int (nI (f4 b9))))) → (Fh2 (o + 5) = some (.inr (0, 8, fun b9 => .int (nI (f5 b9))))) → (Fh2 (o + 6) = some (.inr (0, 8, fun b9 => .int (nI (f6 b9))))) → (∀ a9 : Nat, (a9 < c ∨ c + 7 ≤ a9) → Fh2 a9 = F a9) → (i ≤ 8) → (∀ q, q < i → p1 q = f1 q ∧ p2 q = f2 q ∧ p3 q = f3 q ∧ p4 q = f4 q) → (8 - i < m9) → xX P Θ 2 [some (.ref c), some (.ref o), some (.int (nI (i)))] [] Fh2 (z) 0 0 := by
    intro m9
    induction m9 with
    | zero => intros; omega
    | succ m9 ih_2 =>
      intro Fh2 i p1 p2 p3 p4 h0 h1 h2 h3 h4 h5 h6 m0 m1 m2 m3 m4 m5 m6 hag hi kz hm_2
      refine x_iload_n hC d_Code_copyFrom_2 rfl rfl ?_
      refine x_bipush hC d_Code_copyFrom_3 (v := nI 8) (by decide) ?_
      refine x_icmpN_ge hC d_Code_copyFrom_5 (tgt := 62) (by decide) (by omega) (by omega) (fun c_5 => ?_) (fun c_5 => ?_)
      · skip
        refine x_aload_n hC d_Code_copyFrom_62 rfl rfl ?_
        refine x_aload_n hC d_Code_copyFrom_63 rfl rfl ?_
        refine x_getf hC kf_Code_33 m0 rfl d_Code_copyFrom_64 ?_
        refine x_putf hC kf_Code_33 h0 (Nat.le_of_ble_eq_true rfl) rfl rfl d_Code_copyFrom_67 (fs1 := [.ref (c + 1), .ref (c + 2), .ref (c + 3), .ref (c + 4), .ref (c + 5), .ref (c + 6), .int (nI (jo))]) rfl ?_
        generalize e1 : xup Fh2 (c) (.inl (1, [.ref (c + 1), .ref (c + 2), .ref (c + 3), .ref (c + 4), .ref (c + 5), .ref (c + 6), .int (nI (jo))])) = F1
        have h0 : F1 (c) = some (.inl (1, [.ref (c + 1), .ref (c + 2), .ref (c + 3), .ref (c + 4), .ref (c + 5), .ref (c + 6), .int (nI (jo))])) := by rw [← e1]; exact xup_eq
        have h1 : F1 (c + 1) = some (.inr (0, 8, fun b9 => .int (nI (p1 b9)))) := by rw [← e1]; exact (xup_ne (by omega)).trans h1
        have h2 : F1 (c + 2) = some (.inr (0, 8, fun b9 => .int (nI (p2 b9)))) := by rw [← e1]; exact (xup_ne (by omega)).trans h2
        have h3 : F1 (c + 3) = some (.inr (0, 8, fun b9 => .int (nI (p3 b9)))) := by rw [← e1]; exact (xup_ne (by omega)).trans h3
        have h4 : F1 (c + 4) = some (.inr (0, 8, fun b9 => .int (nI (p4 b9)))) := by rw [← e1]; exact (xup_ne (by omega)).trans h4
        have h5 : F1 (c + 5) = some (.inr (0, 8, fun b9 => .int (nI (g5 b9)))) := by rw [← e1]; exact (xup_ne (by omega)).trans h5
        have h6 : F1 (c + 6) = some (.inr (0, 8, fun b9 => .int (nI (g6 b9)))) := by rw [← e1]; exact (xup_ne (by omega)).trans h6
        have m0 : F1 (o) = some (.inl (1, [.ref (o + 1), .ref (o + 2), .ref (o + 3), .ref (o + 4), .ref (o + 5), .ref (o + 6), .int (nI (jo))])) := by rw [← e1]; exact (xup_ne (by omega)).trans m0
        have m1 : F1 (o + 1) = some (.inr (0, 8, fun b9 => .int (nI (f1 b9)))) := by rw [← e1]; exact (xup_ne (by omega)).trans m1
        have m2 : F1 (o + 2) = some (.inr (0, 8, fun b9 => .int (nI (f2 b9)))) := by rw [← e1]; exact (xup_ne (by omega)).trans m2
        have m3 : F1 (o + 3) = some (.inr (0, 8, fun b9 => .int (nI (f3 b9)))) := by rw [← e1]; exact (xup_ne (by omega)).trans m3
        have m4 : F1 (o + 4) = some (.inr (0, 8, fun b9 => .int (nI (f4 b9)))) := by rw [← e1]; exact (xup_ne (by omega)).trans m4
        have m5 : F1 (o + 5) = some (.inr (0, 8, fun b9 => .int (nI (f5 b9)))) := by rw [← e1]; exact (xup_ne (by omega)).trans m5
        have m6 : F1 (o + 6) = some (.inr (0, 8, fun b9 => .int (nI (f6 b9)))) := by rw [← e1]; exact (xup_ne (by omega)).trans m6
        have hag : ∀ a9 : Nat, (a9 < c ∨ c + 7 ≤ a9) → F1 a9 = F a9 := fun a9 q0 => by rw [← e1]; exact (xup_ne (by omega)).trans (hag a9 q0)
        exact hret _ _ _ _ _ _ d_Code_copyFrom_70 (by decide) (by decide) (⟨rfl, rfl, ⟨h0, ⟨p1, h1, fun j hj => ((kz j (by omega)).1).trans (n1 j hj)⟩, ⟨p2, h2, fun j hj => ((kz j (by omega)).2.1).trans (n2 j hj)⟩, ⟨p3, h3, fun j hj => ((kz j (by omega)).2.2.1).trans (n3 j hj)⟩, ⟨p4, h4, fun j hj => ((kz j (by omega)).2.2.2).trans (n4 j hj)⟩, ⟨_, g5, h5, k5⟩, ⟨_, g6, h6, k6⟩, hbo⟩, ⟨m0, ⟨f1, m1, n1⟩, ⟨f2, m2, n2⟩, ⟨f3, m3, n3⟩, ⟨f4, m4, n4⟩, ⟨f5x, f5, m5, n5⟩, ⟨f6x, f6, m6, n6⟩, hbo⟩, hag⟩)
      · skip
        refine x_aload_n hC d_Code_copyFrom_8 rfl rfl ?_
        refine x_getf hC kf_Code_9 h0 rfl d_Code_copyFrom_9 ?_
        refine x_iload_n hC d_Code_copyFrom_12 rfl rfl ?_
        refine x_aload_n hC d_Code_copyFrom_13 rfl rfl ?_
        refine x_getf hC kf_Code_9 m0 rfl d_Code_copyFrom_14 ?_
        refine x_iload_n hC d_Code_copyFrom_17 rfl rfl ?_
        refine x_iald hC m1 (j := i) ⟨rfl, by omega, by omega⟩ (x := nI (f1 (i))) rfl d_Code_copyFrom_18 ?_
        refine x_iast hC h1 (j := i) ⟨rfl, by omega, by omega⟩ d_Code_copyFrom_19 (g1 := fun b9 => nI (updN p1 (i) (f1 (i)) b9)) (x_updN _ _ _) ?_
        generalize eq1 : updN p1 (i) (f1 (i)) = q1
        generalize e3 : xup Fh2 (c + 1) (.inr (0, 8, fun b9 => .int (nI (q1 b9)))) = F3
        have h0 : F3 (c) = some (.inl (1, [.ref (c + 1), .ref (c + 2), .ref (c + 3), .ref (c + 4), .ref (c + 5), .ref (c + 6), .int (nI (js))])) := by rw [← e3]; exact (xup_ne (by omega)).trans h0
        have h1 : F3 (c + 1) = some (.inr (0, 8, fun b9 => .int (nI (q1 b9)))) := by rw [← e3]; exact xup_eq
        have h2 : F3 (c + 2) = some (.inr (0, 8, fun b9 => .int (nI (p2 b9)))) := by rw [← e3]; exact (xup_ne (by omega)).trans h2
        have h3 : F3 (c + 3) = some (.inr (0, 8, fun b9 => .int (nI (p3 b9)))) := by rw [← e3]; exact (xup_ne (by omega)).trans h3
        have h4 : F3 (c + 4) = some (.inr (0, 8, fun b9 => .int (nI (p4 b9)))) := by rw [← e3]; exact (xup_ne (by omega)).trans h4
        have h5 : F3 (c + 5) = some (.inr (0, 8, fun b9 => .int (nI (g5 b9)))) := by rw [← e3]; exact (xup_ne (by omega)).trans h5
        have h6 : F3 (c + 6) = some (.inr (0, 8, fun b9 => .int (nI (g6 b9)))) := by rw [← e3]; exact (xup_ne (by omega)).trans h6
        have m0 : F3 (o) = some (.inl (1, [.ref (o + 1), .ref (o + 2), .ref (o + 3), .ref (o + 4), .ref (o + 5), .ref (o + 6), .int (nI (jo))])) := by rw [← e3]; exact (xup_ne (by omega)).trans m0
        have m1 : F3 (o + 1) = some (.inr (0, 8, fun b9 => .int (nI (f1 b9)))) := by rw [← e3]; exact (xup_ne (by omega)).trans m1
        have m2 : F3 (o + 2) = some (.inr (0, 8, fun b9 => .int (nI (f2 b9)))) := by rw [← e3]; exact (xup_ne (by omega)).trans m2
        have m3 : F3 (o + 3) = some (.inr (0, 8, fun b9 => .int (nI (f3 b9)))) := by rw [← e3]; exact (xup_ne (by omega)).trans m3
        have m4 : F3 (o + 4) = some (.inr (0, 8, fun b9 => .int (nI (f4 b9)))) := by rw [← e3]; exact (xup_ne (by omega)).trans m4
        have m5 : F3 (o + 5) = some (.inr (0, 8, fun b9 => .int (nI (f5 b9)))) := by rw [← e3]; exact (xup_ne (by omega)).trans m5
        have m6 : F3 (o + 6) = some (.inr (0, 8, fun b9 => .int (nI (f6 b9)))) := by rw [← e3]; exact (xup_ne (by omega)).trans m6
        have hag : ∀ a9 : Nat, (a9 < c ∨ c + 7 ≤ a9) → F3 a9 = F a9 := fun a9 q0 => by rw [← e3]; exact (xup_ne (by omega)).trans (hag a9 q0)
        refine x_aload_n hC d_Code_copyFrom_20 rfl rfl ?_
        refine x_getf hC kf_Code_15 h0 rfl d_Code_copyFrom_21 ?_
        refine x_iload_n hC d_Code_copyFrom_24 rfl rfl ?_
        refine x_aload_n hC d_Code_copyFrom_25 rfl rfl ?_
        refine x_getf hC kf_Code_15 m0 rfl d_Code_copyFrom_26 ?_
        refine x_iload_n hC d_Code_copyFrom_29 rfl rfl ?_
        refine x_iald hC m2 (j := i) ⟨rfl, by omega, by omega⟩ (x := nI (f2 (i))) rfl d_Code_copyFrom_30 ?_
        refine x_iast hC h2 (j := i) ⟨rfl, by omega, by omega⟩ d_Code_copyFrom_31 (g1 := fun b9 => nI (updN p2 (i) (f2 (i)) b9)) (x_updN _ _ _) ?_
        generalize eq2 : updN p2 (i) (f2 (i)) = q2
        generalize e5 : xup F3 (c + 2) (.inr (0, 8, fun b9 => .int (nI (q2 b9)))) = F5
        have h0 : F5 (c) = some (.inl (1, [.ref (c + 1), .ref (c + 2), .ref (c + 3), .ref (c + 4), .ref (c + 5), .ref (c + 6), .int (nI (js))])) := by rw [← e5]; exact (xup_ne (by omega)).trans h0
        have h1 : F5 (c + 1) = some (.inr (0, 8, fun b9 => .int (nI (q1 b9)))) := by rw [← e5]; exact (xup_ne (by omega)).trans h1
        have h2 : F5 (c + 2) = some (.inr (0, 8, fun b9 => .int (nI (q2 b9)))) := by rw [← e5]; exact xup_eq
        have h3 : F5 (c + 3) = some (.inr (0, 8, fun b9 => .int (nI (p3 b9)))) := by rw [← e5]; exact (xup_ne (by omega)).trans h3
        have h4 : F5 (c + 4) = some (.inr (0, 8, fun b9 => .int (nI (p4 b9)))) := by rw [← e5]; exact (xup_ne (by omega)).trans h4
        have h5 : F5 (c + 5) = some (.inr (0, 8, fun b9 => .int (nI (g5 b9)))) := by rw [← e5]; exact (xup_ne (by omega)).trans h5
        have h6 : F5 (c + 6) = some (.inr (0, 8, fun b9 => .int (nI (g6 b9)))) := by rw [← e5]; exact (xup_ne (by omega)).trans h6
        have m0 : F5 (o) = some (.inl (1, [.ref (o + 1), .ref (o + 2), .ref (o + 3), .ref (o + 4), .ref (o + 5), .ref (o + 6), .int (nI (jo))])) := by rw [← e5]; exact (xup_ne (by omega)).trans m0
        have m1 : F5 (o + 1) = some (.inr (0, 8, fun b9 => .int (nI (f1 b9)))) := by rw [← e5]; exact (xup_ne (by omega)).trans m1
        have m2 : F5 (o + 2) = some (.inr (0, 8, fun b9 => .int (nI (f2 b9)))) := by rw [← e5]; exact (xup_ne (by omega)).trans m2
        have m3 : F5 (o + 3) = some (.inr (0, 8, fun b9 => .int (nI (f3 b9)))) := by rw [← e5]; exact (xup_ne (by omega)).trans m3
        have m4 : F5 (o + 4) = some (.inr (0, 8, fun b9 => .int (nI (f4 b9)))) := by rw [← e5]; exact (xup_ne (by omega)).trans m4
        have m5 : F5 (o + 5) = some (.inr (0, 8, fun b9 => .int (nI (f5 b9)))) := by rw [← e5]; exact (xup_ne (by omega)).trans m5
        have m6 : F5 (o + 6) = some (.inr (0, 8, fun b9 => .int (nI (f6 b9)))) := by rw [← e5]; exact (xup_ne (by omega)).trans m6
        have hag : ∀ a9 : Nat, (a9 < c ∨ c + 7 ≤ a9) → F5 a9 = F a9 := fun a9 q0 => by rw [← e5]; exact (xup_ne (by omega)).trans (hag a9 q0)
        refine x_aload_n hC d_Code_copyFrom_32 rfl rfl ?_
        refine x_getf hC kf_Code_18 h0 rfl d_Code_copyFrom_33 ?_
        refine x_iload_n hC d_Code_copyFrom_36 rfl rfl ?_
        refine x_aload_n hC d_Code_copyFrom_37 rfl rfl ?_
        refine x_getf hC kf_Code_18 m0 rfl d_Code_copyFrom_38 ?_
        refine x_iload_n hC d_Code_copyFrom_41 rfl rfl ?_
        refine x_iald hC m3 (j := i) ⟨rfl, by omega, by omega⟩ (x := nI (f3 (i))) rfl d_Code_copyFrom_42 ?_
        refine x_iast hC h3 (j := i) ⟨rfl, by omega, by omega⟩ d_Code_copyFrom_43 (g1 := fun b9 => nI (updN p3 (i) (f3 (i)) b9)) (x_updN _ _ _) ?_
        generalize eq3 : updN p3 (i) (f3 (i)) = q3
        generalize e7 : xup F5 (c + 3) (.inr (0, 8, fun b9 => .int (nI (q3 b9)))) = F7
        have h0 : F7 (c) = some (.inl (1, [.ref (c + 1), .ref (c + 2), .ref (c + 3), .ref (c + 4), .ref (c + 5), .ref (c + 6), .int (nI (js))])) := by rw [← e7]; exact (xup_ne (by omega)).trans h0
        have h1 : F7 (c + 1) = some (.inr (0, 8, fun b9 => .int (nI (q1 b9)))) := by rw [← e7]; exact (xup_ne (by omega)).trans h1
        have h2 : F7 (c + 2) = some (.inr (0, 8, fun b9 => .int (nI (q2 b9)))) := by rw [← e7]; exact (xup_ne (by omega)).trans h2
        have h3 : F7 (c + 3) = some (.inr (0, 8, fun b9 => .int (nI (q3 b9)))) := by rw [← e7]; exact xup_eq
        have h4 : F7 (c + 4) = some (.inr (0, 8, fun b9 => .int (nI (p4 b9)))) := by rw [← e7]; exact (xup_ne (by omega)).trans h4
        have h5 : F7 (c + 5) = some (.inr (0, 8, fun b9 => .int (nI (g5 b9)))) := by rw [← e7]; exact (xup_ne (by omega)).trans h5
        have h6 : F7 (c + 6) = some (.inr (0, 8, fun b9 => .int (nI (g6 b9)))) := by rw [← e7]; exact (xup_ne (by omega)).trans h6
        have m0 : F7 (o) = some (.inl (1, [.ref (o + 1), .ref (o + 2), .ref (o + 3), .ref (o + 4), .ref (o + 5), .ref (o + 6), .int (nI (jo))])) := by rw [← e7]; exact (xup_ne (by omega)).trans m0
        have m1 : F7 (o + 1) = some (.inr (0, 8, fun b9 => .int (nI (f1 b9)))) := by rw [← e7]; exact (xup_ne (by omega)).trans m1
        have m2 : F7 (o + 2) = some (.inr (0, 8, fun b9 => .int (nI (f2 b9)))) := by rw [← e7]; exact (xup_ne (by omega)).trans m2
        have m3 : F7 (o + 3) = some (.inr (0, 8, fun b9 => .int (nI (f3 b9)))) := by rw [← e7]; exact (xup_ne (by omega)).trans m3
        have m4 : F7 (o + 4) = some (.inr (0, 8, fun b9 => .int (nI (f4 b9)))) := by rw [← e7]; exact (xup_ne (by omega)).trans m4
        have m5 : F7 (o + 5) = some (.inr (0, 8, fun b9 => .int (nI (f5 b9)))) := by rw [← e7]; exact (xup_ne (by omega)).trans m5
        have m6 : F7 (o + 6) = some (.inr (0, 8, fun b9 => .int (nI (f6 b9)))) := by rw [← e7]; exact (xup_ne (by omega)).trans m6
        have hag : ∀ a9 : Nat, (a9 < c ∨ c + 7 ≤ a9) → F7 a9 = F a9 := fun a9 q0 => by rw [← e7]; exact (xup_ne (by omega)).trans (hag a9 q0)
        refine x_aload_n hC d_Code_copyFrom_44 rfl rfl ?_
        refine x_getf hC kf_Code_21 h0 rfl d_Code_copyFrom_45 ?_
        refine x_iload_n hC d_Code_copyFrom_48 rfl rfl ?_
        refine x_aload_n hC d_Code_copyFrom_49 rfl rfl ?_
        refine x_getf hC kf_Code_21 m0 rfl d_Code_copyFrom_50 ?_
        refine x_iload_n hC d_Code_copyFrom_53 rfl rfl ?_
        refine x_iald hC m4 (j := i) ⟨rfl, by omega, by omega⟩ (x := nI (f4 (i))) rfl d_Code_copyFrom_54 ?_
        refine x_iast hC h4 (j := i) ⟨rfl, by omega, by omega⟩ d_Code_copyFrom_55 (g1 := fun b9 => nI (updN p4 (i) (f4 (i)) b9)) (x_updN _ _ _) ?_
        generalize eq4 : updN p4 (i) (f4 (i)) = q4
        generalize e9 : xup F7 (c + 4) (.inr (0, 8, fun b9 => .int (nI (q4 b9)))) = F9
        have h0 : F9 (c) = some (.inl (1, [.ref (c + 1), .ref (c + 2), .ref (c + 3), .ref (c + 4), .ref (c + 5), .ref (c + 6), .int (nI (js))])) := by rw [← e9]; exact (xup_ne (by omega)).trans h0
        have h1 : F9 (c + 1) = some (.inr (0, 8, fun b9 => .int (nI (q1 b9)))) := by rw [← e9]; exact (xup_ne (by omega)).trans h1
        have h2 : F9 (c + 2) = some (.inr (0, 8, fun b9 => .int (nI (q2 b9)))) := by rw [← e9]; exact (xup_ne (by omega)).trans h2
        have h3 : F9 (c + 3) = some (.inr (0, 8, fun b9 => .int (nI (q3 b9)))) := by rw [← e9]; exact (xup_ne (by omega)).trans h3
        have h4 : F9 (c + 4) = some (.inr (0, 8, fun b9 => .int (nI (q4 b9)))) := by rw [← e9]; exact xup_eq
        have h5 : F9 (c + 5) = some (.inr (0, 8, fun b9 => .int (nI (g5 b9)))) := by rw [← e9]; exact (xup_ne (by omega)).trans h5
        have h6 : F9 (c + 6) = some (.inr (0, 8, fun b9 => .int (nI (g6 b9)))) := by rw [← e9]; exact (xup_ne (by omega)).trans h6
        have m0 : F9 (o) = some (.inl (1, [.ref (o + 1), .ref (o + 2), .ref (o + 3), .ref (o + 4), .ref (o + 5), .ref (o + 6), .int (nI (jo))])) := by rw [← e9]; exact (xup_ne (by omega)).trans m0
        have m1 : F9 (o + 1) = some (.inr (0, 8, fun b9 => .int (nI (f1 b9)))) := by rw [← e9]; exact (xup_ne (by omega)).trans m1
        have m2 : F9 (o + 2) = some (.inr (0, 8, fun b9 => .int (nI (f2 b9)))) := by rw [← e9]; exact (xup_ne (by omega)).trans m2
        have m3 : F9 (o + 3) = some (.inr (0, 8, fun b9 => .int (nI (f3 b9)))) := by rw [← e9]; exact (xup_ne (by omega)).trans m3
        have m4 : F9 (o + 4) = some (.inr (0, 8, fun b9 => .int (nI (f4 b9)))) := by rw [← e9]; exact (xup_ne (by omega)).trans m4
        have m5 : F9 (o + 5) = some (.inr (0, 8, fun b9 => .int (nI (f5 b9)))) := by rw [← e9]; exact (xup_ne (by omega)).trans m5
        have m6 : F9 (o + 6) = some (.inr (0, 8, fun b9 => .int (nI (f6 b9)))) := by rw [← e9]; exact (xup_ne (by omega)).trans m6
        have hag : ∀ a9 : Nat, (a9 < c ∨ c + 7 ≤ a9) → F9 a9 = F a9 := fun a9 q0 => by rw [← e9]; exact (xup_ne (by omega)).trans (hag a9 q0)
        refine x_iinc hC d_Code_copyFrom_56 rfl (v := (nI (i + 1))) (x_incN 1) (Nat.le_of_ble_eq_true rfl) (L1 := [some (.ref c), some (.ref o), some (.int (nI (i + 1)))]) rfl ?_
        refine x_goto hC d_Code_copyFrom_59 (tgt := 2) (by decide) ?_
        exact ih_2 F9 (i + 1) (q1) (q2) (q3) (q4) h0 h1 h2 h3 h4 h5 h6 m0 m1 m2 m3 m4 m5 m6 hag (by omega) (fun q hq => (Nat.lt_or_ge q i).elim (fun e => by rw [← eq1, ← eq2, ← eq3, ← eq4, updN_ne (by omega), updN_ne (by omega), updN_ne (by omega), updN_ne (by omega)]; exact kz q e) (fun e => by rw [← eq1, ← eq2, ← eq3, ← eq4, show q = i by omega, updN_eq, updN_eq, updN_eq, updN_eq]; exact ⟨rfl, rfl, rfl, rfl⟩)) (by omega)
  exact loop_2 (8 - 0 + 1) F (0) (g1) (g2) (g3) (g4) h0 h1 h2 h3 h4 h5 h6 m0 m1 m2 m3 m4 m5 m6 hag (by omega) (fun _ hq => absurd hq (by omega)) (by omega)

theorem d_Code_init_0 : decode prog_4_method_1_code 0 = .ok (.aload_n 0, 1) := by decide +kernel
theorem d_Code_init_1 : decode prog_4_method_1_code 1 = .ok (.invokespecial 3, 3) := by decide +kernel
theorem d_Code_init_4 : decode prog_4_method_1_code 4 = .ok (.aload_n 0, 1) := by decide +kernel
theorem d_Code_init_5 : decode prog_4_method_1_code 5 = .ok (.bipush 8, 2) := by decide +kernel
theorem d_Code_init_7 : decode prog_4_method_1_code 7 = .ok (.newarray .int, 2) := by decide +kernel
theorem d_Code_init_9 : decode prog_4_method_1_code 9 = .ok (.putfield 9, 3) := by decide +kernel
theorem d_Code_init_12 : decode prog_4_method_1_code 12 = .ok (.aload_n 0, 1) := by decide +kernel
theorem d_Code_init_13 : decode prog_4_method_1_code 13 = .ok (.bipush 8, 2) := by decide +kernel
theorem d_Code_init_15 : decode prog_4_method_1_code 15 = .ok (.newarray .int, 2) := by decide +kernel
theorem d_Code_init_17 : decode prog_4_method_1_code 17 = .ok (.putfield 15, 3) := by decide +kernel
theorem d_Code_init_20 : decode prog_4_method_1_code 20 = .ok (.aload_n 0, 1) := by decide +kernel
theorem d_Code_init_21 : decode prog_4_method_1_code 21 = .ok (.bipush 8, 2) := by decide +kernel
theorem d_Code_init_23 : decode prog_4_method_1_code 23 = .ok (.newarray .int, 2) := by decide +kernel
theorem d_Code_init_25 : decode prog_4_method_1_code 25 = .ok (.putfield 18, 3) := by decide +kernel
theorem d_Code_init_28 : decode prog_4_method_1_code 28 = .ok (.aload_n 0, 1) := by decide +kernel
theorem d_Code_init_29 : decode prog_4_method_1_code 29 = .ok (.bipush 8, 2) := by decide +kernel
theorem d_Code_init_31 : decode prog_4_method_1_code 31 = .ok (.newarray .int, 2) := by decide +kernel
theorem d_Code_init_33 : decode prog_4_method_1_code 33 = .ok (.putfield 21, 3) := by decide +kernel
theorem d_Code_init_36 : decode prog_4_method_1_code 36 = .ok (.aload_n 0, 1) := by decide +kernel
theorem d_Code_init_37 : decode prog_4_method_1_code 37 = .ok (.bipush 8, 2) := by decide +kernel
theorem d_Code_init_39 : decode prog_4_method_1_code 39 = .ok (.newarray .int, 2) := by decide +kernel
theorem d_Code_init_41 : decode prog_4_method_1_code 41 = .ok (.putfield 24, 3) := by decide +kernel
theorem d_Code_init_44 : decode prog_4_method_1_code 44 = .ok (.aload_n 0, 1) := by decide +kernel
theorem d_Code_init_45 : decode prog_4_method_1_code 45 = .ok (.bipush 8, 2) := by decide +kernel
theorem d_Code_init_47 : decode prog_4_method_1_code 47 = .ok (.newarray .int, 2) := by decide +kernel
theorem d_Code_init_49 : decode prog_4_method_1_code 49 = .ok (.putfield 27, 3) := by decide +kernel
theorem d_Code_init_52 : decode prog_4_method_1_code 52 = .ok (.iconst 0, 1) := by decide +kernel
theorem d_Code_init_53 : decode prog_4_method_1_code 53 = .ok (.istore_n 1, 1) := by decide +kernel
theorem d_Code_init_54 : decode prog_4_method_1_code 54 = .ok (.iload_n 1, 1) := by decide +kernel
theorem d_Code_init_55 : decode prog_4_method_1_code 55 = .ok (.bipush 8, 2) := by decide +kernel
theorem d_Code_init_57 : decode prog_4_method_1_code 57 = .ok (.if_icmp .ge 16, 3) := by decide +kernel
theorem d_Code_init_60 : decode prog_4_method_1_code 60 = .ok (.aload_n 0, 1) := by decide +kernel
theorem d_Code_init_61 : decode prog_4_method_1_code 61 = .ok (.getfield 9, 3) := by decide +kernel
theorem d_Code_init_64 : decode prog_4_method_1_code 64 = .ok (.iload_n 1, 1) := by decide +kernel
theorem d_Code_init_65 : decode prog_4_method_1_code 65 = .ok (.iconst 1, 1) := by decide +kernel
theorem d_Code_init_66 : decode prog_4_method_1_code 66 = .ok (.iastore, 1) := by decide +kernel
theorem d_Code_init_67 : decode prog_4_method_1_code 67 = .ok (.iinc 1 1, 3) := by decide +kernel
theorem d_Code_init_70 : decode prog_4_method_1_code 70 = .ok (.goto (-16), 3) := by decide +kernel
theorem d_Code_init_73 : decode prog_4_method_1_code 73 = .ok (.aload_n 0, 1) := by decide +kernel
theorem d_Code_init_74 : decode prog_4_method_1_code 74 = .ok (.invokevirtual 30, 3) := by decide +kernel
theorem d_Code_init_77 : decode prog_4_method_1_code 77 = .ok (.return_, 1) := by decide +kernel
set_option maxHeartbeats 4000000 in
set_option maxRecDepth 20000 in
theorem c_Code_init {P : xP} {F : xF} {c : Nat} (h0 : F (c) = some (.inl (1, [.null, .null, .null, .null, .null, .null, .int (nI 0)])))  : xM P xy_Code_init [.ref c] F (c + 1) 6 48 (fun r9 F9 z9 => r9 = none ∧ z9 = c + 7 ∧ xCd F9 (c) ((fun _ => 1)) ((hLen (fun _ => 1))) ((hVal (hLen (fun _ => 1)))) ((hOrd (hLen (fun _ => 1)))) ((hSum (fun _ => 1))) ∧ (∀ a9 : Nat, (a9 < c ∨ c + 7 ≤ a9) → F9 a9 = F a9)) := by
  refine xM_v rfl (Nat.le_of_ble_eq_true rfl) (L0 := [some (.ref c), none]) rfl rfl fun Θ hC hin hret => ?_
  have hag : ∀ a9 : Nat, (a9 < c ∨ c + 7 ≤ a9) → F a9 = F a9 := fun a9 _ => rfl
  refine x_aload_n hC d_Code_init_0 rfl rfl ?_
  refine x_objInit hC ko_Code_3 rfl (by decide) (Nat.le_of_ble_eq_true rfl) d_Code_init_1 ?_
  refine x_aload_n hC d_Code_init_4 rfl rfl ?_
  refine x_bipush hC d_Code_init_5 (v := nI 8) (by decide) ?_
  refine x_newa hC (t := 0) rfl (by decide) (by decide) (x_in (x_of (xtb_1 (List.mem_of_getElem? (i := 109) (by decide +kernel)))) (by decide +kernel)) rfl (by omega) (by decide) (by decide) (f1 := fun b9 => .int (nI ((fun _ => 0) b9))) rfl d_Code_init_7 ?_
  generalize e1 : xup F (c + 1) (.inr (0, 8, fun b9 => .int (nI ((fun _ => 0) b9)))) = F1
  have h0 : F1 (c) = some (.inl (1, [.null, .null, .null, .null, .null, .null, .int (nI 0)])) := by rw [← e1]; exact (xup_ne (by omega)).trans h0
  have h1 : F1 (c + 1) = some (.inr (0, 8, fun b9 => .int (nI ((fun _ => 0) b9)))) := by rw [← e1]; exact xup_eq
  have hag : ∀ a9 : Nat, (a9 < c ∨ c + 7 ≤ a9) → F1 a9 = F a9 := fun a9 q0 => by rw [← e1]; exact (xup_ne (by omega)).trans (hag a9 q0)
  refine x_putF hC hin kk_Code_9 h0 (Nat.le_of_ble_eq_true rfl) rfl rfl d_Code_init_9 (fs1 := [.ref (c + 1), .null, .null, .null, .null, .null, .int (nI 0)]) rfl ?_
  generalize e2 : xup F1 (c) (.inl (1, [.ref (c + 1), .null, .null, .null, .null, .null, .int (nI 0)])) = F2
  have h0 : F2 (c) = some (.inl (1, [.ref (c + 1), .null, .null, .null, .null, .null, .int (nI 0)])) := by rw [← e2]; exact xup_eq
  have h1 : F2 (c + 1) = some (.inr (0, 8, fun b9 => .int (nI ((fun _ => 0) b9)))) := by rw [← e2]; exact (xup_ne (by omega)).trans h1
  have hag : ∀ a9 : Nat, (a9 < c ∨ c + 7 ≤ a9) → F2 a9 = F a9 := fun a9 q0 => by rw [← e2]; exact (xup_ne (by omega)).trans (hag a9 q0)
  refine x_aload_n hC d_Code_init_12 rfl rfl ?_
  refine x_bipush hC d_Code_init_13 (v := nI 8) (by decide) ?_
  refine x_newa hC (t := 0) rfl (by decide) (by decide) (x_in (x_of (xtb_1 (List.mem_of_getElem? (i := 109) (by decide +kernel)))) (by decide +kernel)) rfl (by omega) (by decide) (by decide) (f1 := fun b9 => .int (nI ((fun _ => 0) b9))) rfl d_Code_init_15 ?_
  generalize e3 : xup F2 (c + 2) (.inr (0, 8, fun b9 => .int (nI ((fun _ => 0) b9)))) = F3
  have h0 : F3 (c) = some (.inl (1, [.ref (c + 1), .null, .null, .null, .null, .null, .int (nI 0)])) := by rw [← e3]; exact (xup_ne (by omega)).trans h0
  have h1 : F3 (c + 1) = some (.inr (0, 8, fun b9 => .int (nI ((fun _ => 0) b9)))) := by rw [← e3]; exact (xup_ne (by omega)).trans h1
  have h2 : F3 (c + 2) = some (.inr (0, 8, fun b9 => .int (nI ((fun _ => 0) b9)))) := by rw [← e3]; exact xup_eq
  have hag : ∀ a9 : Nat, (a9 < c ∨ c + 7 ≤ a9) → F3 a9 = F a9 := fun a9 q0 => by rw [← e3]; exact (xup_ne (by omega)).trans (hag a9 q0)
  refine x_putF hC hin kk_Code_15 h0 (Nat.le_of_ble_eq_true rfl) rfl rfl d_Code_init_17 (fs1 := [.ref (c + 1), .ref (c + 2), .null, .null, .null, .null, .int (nI 0)]) rfl ?_
  generalize e4 : xup F3 (c) (.inl (1, [.ref (c + 1), .ref (c + 2), .null, .null, .null, .null, .int (nI 0)])) = F4
  have h0 : F4 (c) = some (.inl (1, [.ref (c + 1), .ref (c + 2), .null, .null, .null, .null, .int (nI 0)])) := by rw [← e4]; exact xup_eq
  have h1 : F4 (c + 1) = some (.inr (0, 8, fun b9 => .int (nI ((fun _ => 0) b9)))) := by rw [← e4]; exact (xup_ne (by omega)).trans h1
  have h2 : F4 (c + 2) = some (.inr (0, 8, fun b9 => .int (nI ((fun _ => 0) b9)))) := by rw [← e4]; exact (xup_ne (by omega)).trans h2
  have hag : ∀ a9 : Nat, (a9 < c ∨ c + 7 ≤ a9) → F4 a9 = F a9 := fun a9 q0 => by rw [← e4]; exact (xup_ne (by omega)).trans (hag a9 q0)
  refine x_aload_n hC d_Code_init_20 rfl rfl ?_
  refine x_bipush hC d_Code_init_21 (v := nI 8) (by decide) ?_
  refine x_newa hC (t := 0) rfl (by decide) (by decide) (x_in (x_of (xtb_1 (List.mem_of_getElem? (i := 109) (by decide +kernel)))) (by decide +kernel)) rfl (by omega) (by decide) (by decide) (f1 := fun b9 => .int (nI ((fun _ => 0) b9))) rfl d_Code_init_23 ?_
  generalize e5 : xup F4 (c + 3) (.inr (0, 8, fun b9 => .int (nI ((fun _ => 0) b9)))) = F5
  have h0 : F5 (c) = some (.inl (1, [.ref (c + 1), .ref (c + 2), .null, .null, .null, .null, .int (nI 0)])) := by rw [← e5]; exact (xup_ne (by omega)).trans h0
  have h1 : F5 (c + 1) = some (.inr (0, 8, fun b9 => .int (nI ((fun _ => 0) b9)))) := by rw [← e5]; exact (xup_ne (by omega)).trans h1
  have h2 : F5 (c + 2) = some (.inr (0, 8, fun b9 => .int (nI ((fun _ => 0) b9)))) := by rw [← e5]; exact (xup_ne (by omega)).trans h2
  have h3 : F5 (c + 3) = some (.inr (0, 8, fun b9 => .int (nI ((fun _ => 0) b9)))) := by rw [← e5]; exact xup_eq
  have hag : ∀ a9 : Nat, (a9 < c ∨ c + 7 ≤ a9) → F5 a9 = F a9 := fun a9 q0 => by rw [← e5]; exact (xup_ne (by omega)).trans (hag a9 q0)
  refine x_putF hC hin kk_Code_18 h0 (Nat.le_of_ble_eq_true rfl) rfl rfl d_Code_init_25 (fs1 := [.ref (c + 1), .ref (c + 2), .ref (c + 3), .null, .null, .null, .int (nI 0)]) rfl ?_
  generalize e6 : xup F5 (c) (.inl (1, [.ref (c + 1), .ref (c + 2), .ref (c + 3), .null, .null, .null, .int (nI 0)])) = F6
  have h0 : F6 (c) = some (.inl (1, [.ref (c + 1), .ref (c + 2), .ref (c + 3), .null, .null, .null, .int (nI 0)])) := by rw [← e6]; exact xup_eq
  have h1 : F6 (c + 1) = some (.inr (0, 8, fun b9 => .int (nI ((fun _ => 0) b9)))) := by rw [← e6]; exact (xup_ne (by omega)).trans h1
  have h2 : F6 (c + 2) = some (.inr (0, 8, fun b9 => .int (nI ((fun _ => 0) b9)))) := by rw [← e6]; exact (xup_ne (by omega)).trans h2
  have h3 : F6 (c + 3) = some (.inr (0, 8, fun b9 => .int (nI ((fun _ => 0) b9)))) := by rw [← e6]; exact (xup_ne (by omega)).trans h3
  have hag : ∀ a9 : Nat, (a9 < c ∨ c + 7 ≤ a9) → F6 a9 = F a9 := fun a9 q0 => by rw [← e6]; exact (xup_ne (by omega)).trans (hag a9 q0)
  refine x_aload_n hC d_Code_init_28 rfl rfl ?_
  refine x_bipush hC d_Code_init_29 (v := nI 8) (by decide) ?_
  refine x_newa hC (t := 0) rfl (by decide) (by decide) (x_in (x_of (xtb_1 (List.mem_of_getElem? (i := 109) (by decide +kernel)))) (by decide +kernel)) rfl (by omega) (by decide) (by decide) (f1 := fun b9 => .int (nI ((fun _ => 0) b9))) rfl d_Code_init_31 ?_
  generalize e7 : xup F6 (c + 4) (.inr (0, 8, fun b9 => .int (nI ((fun _ => 0) b9)))) = F7
  have h0 : F7 (c) = some (.inl (1, [.ref (c + 1), .ref (c + 2), .ref (c + 3), .null, .null, .null, .int (nI 0)])) := by rw [← e7]; exact (xup_ne (by omega)).trans h0
  have h1 : F7 (c + 1) = some (.inr (0, 8, fun b9 => .int (nI ((fun _ => 0) b9)))) := by rw [← e7]; exact (xup_ne (by omega)).trans h1
  have h2 : F7 (c + 2) = some (.inr (0, 8, fun b9 => .int (nI ((fun _ => 0) b9)))) := by rw [← e7]; exact (xup_ne (by omega)).trans h2
  have h3 : F7 (c + 3) = some (.inr (0, 8, fun b9 => .int (nI ((fun _ => 0) b9)))) := by rw [← e7]; exact (xup_ne (by omega)).trans h3
  have h4 : F7 (c + 4) = some (.inr (0, 8, fun b9 => .int (nI ((fun _ => 0) b9)))) := by rw [← e7]; exact xup_eq
  have hag : ∀ a9 : Nat, (a9 < c ∨ c + 7 ≤ a9) → F7 a9 = F a9 := fun a9 q0 => by rw [← e7]; exact (xup_ne (by omega)).trans (hag a9 q0)
  refine x_putF hC hin kk_Code_21 h0 (Nat.le_of_ble_eq_true rfl) rfl rfl d_Code_init_33 (fs1 := [.ref (c + 1), .ref (c + 2), .ref (c + 3), .ref (c + 4), .null, .null, .int (nI 0)]) rfl ?_
  generalize e8 : xup F7 (c) (.inl (1, [.ref (c + 1), .ref (c + 2), .ref (c + 3), .ref (c + 4), .null, .null, .int (nI 0)])) = F8
  have h0 : F8 (c) = some (.inl (1, [.ref (c + 1), .ref (c + 2), .ref (c + 3), .ref (c + 4), .null, .null, .int (nI 0)])) := by rw [← e8]; exact xup_eq
  have h1 : F8 (c + 1) = some (.inr (0, 8, fun b9 => .int (nI ((fun _ => 0) b9)))) := by rw [← e8]; exact (xup_ne (by omega)).trans h1
  have h2 : F8 (c + 2) = some (.inr (0, 8, fun b9 => .int (nI ((fun _ => 0) b9)))) := by rw [← e8]; exact (xup_ne (by omega)).trans h2
  have h3 : F8 (c + 3) = some (.inr (0, 8, fun b9 => .int (nI ((fun _ => 0) b9)))) := by rw [← e8]; exact (xup_ne (by omega)).trans h3
  have h4 : F8 (c + 4) = some (.inr (0, 8, fun b9 => .int (nI ((fun _ => 0) b9)))) := by rw [← e8]; exact (xup_ne (by omega)).trans h4
  have hag : ∀ a9 : Nat, (a9 < c ∨ c + 7 ≤ a9) → F8 a9 = F a9 := fun a9 q0 => by rw [← e8]; exact (xup_ne (by omega)).trans (hag a9 q0)
  refine x_aload_n hC d_Code_init_36 rfl rfl ?_
  refine x_bipush hC d_Code_init_37 (v := nI 8) (by decide) ?_
  refine x_newa hC (t := 0) rfl (by decide) (by decide) (x_in (x_of (xtb_1 (List.mem_of_getElem? (i := 109) (by decide +kernel)))) (by decide +kernel)) rfl (by omega) (by decide) (by decide) (f1 := fun b9 => .int (nI ((fun _ => 0) b9))) rfl d_Code_init_39 ?_
  generalize e9 : xup F8 (c + 5) (.inr (0, 8, fun b9 => .int (nI ((fun _ => 0) b9)))) = F9
  have h0 : F9 (c) = some (.inl (1, [.ref (c + 1), .ref (c + 2), .ref (c + 3), .ref (c + 4), .null, .null, .int (nI 0)])) := by rw [← e9]; exact (xup_ne (by omega)).trans h0
  have h1 : F9 (c + 1) = some (.inr (0, 8, fun b9 => .int (nI ((fun _ => 0) b9)))) := by rw [← e9]; exact (xup_ne (by omega)).trans h1
  have h2 : F9 (c + 2) = some (.inr (0, 8, fun b9 => .int (nI ((fun _ => 0) b9)))) := by rw [← e9]; exact (xup_ne (by omega)).trans h2
  have h3 : F9 (c + 3) = some (.inr (0, 8, fun b9 => .int (nI ((fun _ => 0) b9)))) := by rw [← e9]; exact (xup_ne (by omega)).trans h3
  have h4 : F9 (c + 4) = some (.inr (0, 8, fun b9 => .int (nI ((fun _ => 0) b9)))) := by rw [← e9]; exact (xup_ne (by omega)).trans h4
  have h5 : F9 (c + 5) = some (.inr (0, 8, fun b9 => .int (nI ((fun _ => 0) b9)))) := by rw [← e9]; exact xup_eq
  have hag : ∀ a9 : Nat, (a9 < c ∨ c + 7 ≤ a9) → F9 a9 = F a9 := fun a9 q0 => by rw [← e9]; exact (xup_ne (by omega)).trans (hag a9 q0)
  refine x_putF hC hin kk_Code_24 h0 (Nat.le_of_ble_eq_true rfl) rfl rfl d_Code_init_41 (fs1 := [.ref (c + 1), .ref (c + 2), .ref (c + 3), .ref (c + 4), .ref (c + 5), .null, .int (nI 0)]) rfl ?_
  generalize e10 : xup F9 (c) (.inl (1, [.ref (c + 1), .ref (c + 2), .ref (c + 3), .ref (c + 4), .ref (c + 5), .null, .int (nI 0)])) = F10
  have h0 : F10 (c) = some (.inl (1, [.ref (c + 1), .ref (c + 2), .ref (c + 3), .ref (c + 4), .ref (c + 5), .null, .int (nI 0)])) := by rw [← e10]; exact xup_eq
  have h1 : F10 (c + 1) = some (.inr (0, 8, fun b9 => .int (nI ((fun _ => 0) b9)))) := by rw [← e10]; exact (xup_ne (by omega)).trans h1
  have h2 : F10 (c + 2) = some (.inr (0, 8, fun b9 => .int (nI ((fun _ => 0) b9)))) := by rw [← e10]; exact (xup_ne (by omega)).trans h2
  have h3 : F10 (c + 3) = some (.inr (0, 8, fun b9 => .int (nI ((fun _ => 0) b9)))) := by rw [← e10]; exact (xup_ne (by omega)).trans h3
  have h4 : F10 (c + 4) = some (.inr (0, 8, fun b9 => .int (nI ((fun _ => 0) b9)))) := by rw [← e10]; exact (xup_ne (by omega)).trans h4
  have h5 : F10 (c + 5) = some (.inr (0, 8, fun b9 => .int (nI ((fun _ => 0) b9)))) := by rw [← e10]; exact (xup_ne (by omega)).trans h5
  have hag : ∀ a9 : Nat, (a9 < c ∨ c + 7 ≤ a9) → F10 a9 = F a9 := fun a9 q0 => by rw [← e10]; exact (xup_ne (by omega)).trans (hag a9 q0)
  refine x_aload_n hC d_Code_init_44 rfl rfl ?_
  refine x_bipush hC d_Code_init_45 (v := nI 8) (by decide) ?_
  refine x_newa hC (t := 0) rfl (by decide) (by decide) (x_in (x_of (xtb_1 (List.mem_of_getElem? (i := 109) (by decide +kernel)))) (by decide +kernel)) rfl (by omega) (by decide) (by decide) (f1 := fun b9 => .int (nI ((fun _ => 0) b9))) rfl d_Code_init_47 ?_
  generalize e11 : xup F10 (c + 6) (.inr (0, 8, fun b9 => .int (nI ((fun _ => 0) b9)))) = F11
  have h0 : F11 (c) = some (.inl (1, [.ref (c + 1), .ref (c + 2), .ref (c + 3), .ref (c + 4), .ref (c + 5), .null, .int (nI 0)])) := by rw [← e11]; exact (xup_ne (by omega)).trans h0
  have h1 : F11 (c + 1) = some (.inr (0, 8, fun b9 => .int (nI ((fun _ => 0) b9)))) := by rw [← e11]; exact (xup_ne (by omega)).trans h1
  have h2 : F11 (c + 2) = some (.inr (0, 8, fun b9 => .int (nI ((fun _ => 0) b9)))) := by rw [← e11]; exact (xup_ne (by omega)).trans h2
  have h3 : F11 (c + 3) = some (.inr (0, 8, fun b9 => .int (nI ((fun _ => 0) b9)))) := by rw [← e11]; exact (xup_ne (by omega)).trans h3
  have h4 : F11 (c + 4) = some (.inr (0, 8, fun b9 => .int (nI ((fun _ => 0) b9)))) := by rw [← e11]; exact (xup_ne (by omega)).trans h4
  have h5 : F11 (c + 5) = some (.inr (0, 8, fun b9 => .int (nI ((fun _ => 0) b9)))) := by rw [← e11]; exact (xup_ne (by omega)).trans h5
  have h6 : F11 (c + 6) = some (.inr (0, 8, fun b9 => .int (nI ((fun _ => 0) b9)))) := by rw [← e11]; exact xup_eq
  have hag : ∀ a9 : Nat, (a9 < c ∨ c + 7 ≤ a9) → F11 a9 = F a9 := fun a9 q0 => by rw [← e11]; exact (xup_ne (by omega)).trans (hag a9 q0)
  refine x_putF hC hin kk_Code_27 h0 (Nat.le_of_ble_eq_true rfl) rfl rfl d_Code_init_49 (fs1 := [.ref (c + 1), .ref (c + 2), .ref (c + 3), .ref (c + 4), .ref (c + 5), .ref (c + 6), .int (nI 0)]) rfl ?_
  generalize e12 : xup F11 (c) (.inl (1, [.ref (c + 1), .ref (c + 2), .ref (c + 3), .ref (c + 4), .ref (c + 5), .ref (c + 6), .int (nI 0)])) = F12
  have h0 : F12 (c) = some (.inl (1, [.ref (c + 1), .ref (c + 2), .ref (c + 3), .ref (c + 4), .ref (c + 5), .ref (c + 6), .int (nI 0)])) := by rw [← e12]; exact xup_eq
  have h1 : F12 (c + 1) = some (.inr (0, 8, fun b9 => .int (nI ((fun _ => 0) b9)))) := by rw [← e12]; exact (xup_ne (by omega)).trans h1
  have h2 : F12 (c + 2) = some (.inr (0, 8, fun b9 => .int (nI ((fun _ => 0) b9)))) := by rw [← e12]; exact (xup_ne (by omega)).trans h2
  have h3 : F12 (c + 3) = some (.inr (0, 8, fun b9 => .int (nI ((fun _ => 0) b9)))) := by rw [← e12]; exact (xup_ne (by omega)).trans h3
  have h4 : F12 (c + 4) = some (.inr (0, 8, fun b9 => .int (nI ((fun _ => 0) b9)))) := by rw [← e12]; exact (xup_ne (by omega)).trans h4
  have h5 : F12 (c + 5) = some (.inr (0, 8, fun b9 => .int (nI ((fun _ => 0) b9)))) := by rw [← e12]; exact (xup_ne (by omega)).trans h5
  have h6 : F12 (c + 6) = some (.inr (0, 8, fun b9 => .int (nI ((fun _ => 0) b9)))) := by rw [← e12]; exact (xup_ne (by omega)).trans h6
  have hag : ∀ a9 : Nat, (a9 < c ∨ c + 7 ≤ a9) → F12 a9 = F a9 := fun a9 q0 => by rw [← e12]; exact (xup_ne (by omega)).trans (hag a9 q0)
  refine x_iconst hC d_Code_init_52 (v := nI 0) (by decide) ?_
  refine x_istore_n hC d_Code_init_53 rfl (Nat.le_of_ble_eq_true rfl) (L1 := [some (.ref c), some (.int (nI 0))]) rfl ?_
  have loop_54 : ∀ (m9 : Nat) (Fh54 : xF) (i : Nat) (p1 : Nat → Nat), (Fh54 (c) = some (.inl (1, [.ref (c + 1), .ref (c + 2), .ref (c + 3), .ref (c + 4), .ref (c + 5), .ref (c + 6), .int (nI 0)]))) → (Fh54 (c + 1) = some (.inr (0, 8, fun b9 => .int (nI (p1 b9))))) → (Fh54 (c + 2) = some (.inr (0, 8, fun b9 => .int (nI ((fun _ => 0) b9))))) → (Fh54 (c + 3) = some (.inr (0, 8, fun b9 => .int (nI ((fun _ => 0) b9))))) → (Fh54 (c + 4) = some (.inr (0, 8, fun b9 => .int (nI ((fun _ => 0) b9))))) → (Fh54 (c + 5) = some (.inr (0, 8, fun b9 => .int (nI ((fun _ => 0) b9))))) → (Fh54 (c + 6) = some (.inr (0, 8, fun b9 => .int (nI ((fun _ => 0) b9))))) → (∀ a9 : Nat, (a9 < c ∨ c + 7 ≤ a9) → Fh54 a9 = F a9) → (i ≤ 8) → (∀ q, q < i → p1 q = 1) → (8 - i < m9) → xX P Θ 54 [some (.ref c), some (.int (nI (i)))] [] Fh54 (c + 7) 6 48 := by
    intro m9
    induction m9 with
    | zero => intros; omega
    | succ m9 ih_54 =>
      intro Fh54 i p1 h0 h1 h2 h3 h4 h5 h6 hag hi kz hm_54
      refine x_iload_n hC d_Code_init_54 rfl rfl ?_
      refine x_bipush hC d_Code_init_55 (v := nI 8) (by decide) ?_
      refine x_icmpN_ge hC d_Code_init_57 (tgt := 73) (by decide) (by omega) (by omega) (fun c_57 => ?_) (fun c_57 => ?_)
      · skip
        have hc : xCd Fh54 (c) (fun _ => 1) (fun _ => 0) (fun _ => 0) (fun _ => 0) (0) := ⟨h0, ⟨p1, h1, fun j hj => kz j (by omega)⟩, ⟨_, h2, fun _ _ => rfl⟩, ⟨_, h3, fun _ _ => rfl⟩, ⟨_, h4, fun _ _ => rfl⟩, ⟨_, _, h5, fun _ _ => rfl⟩, ⟨_, _, h6, fun _ _ => rfl⟩, fun j hj => ⟨Nat.le_of_ble_eq_true rfl, Nat.le_of_ble_eq_true rfl, Nat.le_of_ble_eq_true rfl, Nat.le_of_ble_eq_true rfl⟩, by omega⟩
        refine x_aload_n hC d_Code_init_73 rfl rfl ?_
        refine x_callV hC kv_Code_30 (c_Code_derive (hc := hc)) hc.1 rfl rfl (by decide) rfl rfl rfl (Nat.le_of_ble_eq_true rfl) (by decide) d_Code_init_74 (fun r9 F9 z9 hp9 => ?_)
        obtain ⟨rfl, h9c, j0, hag9⟩ := hp9
        rw [h9c]
        clear h9c z9
        generalize F9 = F13 at *
        have hc : xCd F13 (c) ((fun _ => 1)) ((hLen (fun _ => 1))) ((hVal (hLen (fun _ => 1)))) ((hOrd (hLen (fun _ => 1)))) ((hSum (fun _ => 1))) := j0
        have hag : ∀ a9 : Nat, (a9 < c ∨ c + 7 ≤ a9) → F13 a9 = F a9 := fun a9 q0 => (hag9 a9 (by omega)).trans (hag a9 q0)
        have hg_74 := hag9
        clear hag9
        exact hret _ _ _ _ _ _ d_Code_init_77 (by decide) (by decide) (⟨rfl, rfl, hc, hag⟩)
      · skip
        refine x_aload_n hC d_Code_init_60 rfl rfl ?_
        refine x_getf hC kf_Code_9 h0 rfl d_Code_init_61 ?_
        refine x_iload_n hC d_Code_init_64 rfl rfl ?_
        refine x_iconst hC d_Code_init_65 (v := nI 1) (by decide) ?_
        refine x_iast hC h1 (j := i) ⟨rfl, by omega, by omega⟩ d_Code_init_66 (g1 := fun b9 => nI (updN p1 (i) (1) b9)) (x_updN _ _ _) ?_
        generalize eq1 : updN p1 (i) (1) = q1
        generalize e15 : xup Fh54 (c + 1) (.inr (0, 8, fun b9 => .int (nI (q1 b9)))) = F15
        have h0 : F15 (c) = some (.inl (1, [.ref (c + 1), .ref (c + 2), .ref (c + 3), .ref (c + 4), .ref (c + 5), .ref (c + 6), .int (nI 0)])) := by rw [← e15]; exact (xup_ne (by omega)).trans h0
        have h1 : F15 (c + 1) = some (.inr (0, 8, fun b9 => .int (nI (q1 b9)))) := by rw [← e15]; exact xup_eq
        have h2 : F15 (c + 2) = some (.inr (0, 8, fun b9 => .int (nI ((fun _ => 0) b9)))) := by rw [← e15]; exact (xup_ne (by omega)).trans h2
        have h3 : F15 (c + 3) = some (.inr (0, 8, fun b9 => .int (nI ((fun _ => 0) b9)))) := by rw [← e15]; exact (xup_ne (by omega)).trans h3
        have h4 : F15 (c + 4) = some (.inr (0, 8, fun b9 => .int (nI ((fun _ => 0) b9)))) := by rw [← e15]; exact (xup_ne (by omega)).trans h4
        have h5 : F15 (c + 5) = some (.inr (0, 8, fun b9 => .int (nI ((fun _ => 0) b9)))) := by rw [← e15]; exact (xup_ne (by omega)).trans h5
        have h6 : F15 (c + 6) = some (.inr (0, 8, fun b9 => .int (nI ((fun _ => 0) b9)))) := by rw [← e15]; exact (xup_ne (by omega)).trans h6
        have hag : ∀ a9 : Nat, (a9 < c ∨ c + 7 ≤ a9) → F15 a9 = F a9 := fun a9 q0 => by rw [← e15]; exact (xup_ne (by omega)).trans (hag a9 q0)
        refine x_iinc hC d_Code_init_67 rfl (v := (nI (i + 1))) (x_incN 1) (Nat.le_of_ble_eq_true rfl) (L1 := [some (.ref c), some (.int (nI (i + 1)))]) rfl ?_
        refine x_goto hC d_Code_init_70 (tgt := 54) (by decide) ?_
        exact ih_54 F15 (i + 1) (q1) h0 h1 h2 h3 h4 h5 h6 hag (by omega) (fun q hq => (Nat.lt_or_ge q i).elim (fun e => by rw [← eq1, updN_ne (by omega)]; exact kz q e) (fun e => by rw [← eq1, show q = i by omega, updN_eq])) (by omega)
  exact loop_54 (8 - 0 + 1) F12 (0) ((fun _ => 0)) h0 h1 h2 h3 h4 h5 h6 hag (by omega) (fun _ hq => absurd hq (by omega)) (by omega)

