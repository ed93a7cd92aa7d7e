/-- a code's cells: weights, lengths, values, order, the groups' row and their weights, the sum -/
def xAr (F : xF) (a n : Nat) (f : Nat → Nat) : Prop := ∃ g : Nat → Nat, F a = some (.inr (0, n, fun b9 => .int (nI (g b9)))) ∧ ∀ j, j < n → g j = f j
theorem xAr_fr {F F1 : xF} {a n : Nat} {f : Nat → Nat} (h : xAr F a n f) (hf : F1 a = F a) : xAr F1 a n f := by
  obtain ⟨g, h1, h2⟩ := h
  exact ⟨g, hf.trans h1, h2⟩
theorem xAr_ext {F : xF} {a n : Nat} {f f2 : Nat → Nat} (h : xAr F a n f) (hf : ∀ j, j < n → f j = f2 j) : xAr F a n f2 := by
  obtain ⟨g, h1, h2⟩ := h
  exact ⟨g, h1, fun j hj => (h2 j hj).trans (hf j hj)⟩
abbrev xCo (c js : Nat) : List Value := [.ref (c + 1), .ref (c + 2), .ref (c + 3), .ref (c + 4), .ref (c + 5), .ref (c + 6), .int (nI js)]
def xCb (w ln vl od : Nat → Nat) (js : Nat) : Prop := (∀ j, j < 8 → w j ≤ 99 ∧ ln j ≤ 7 ∧ vl j < 2000 ∧ od j < 8) ∧ js < 100000
def xCd (F : xF) (c : Nat) (w ln vl od : Nat → Nat) (js : Nat) : Prop := F c = some (.inl (1, xCo c js)) ∧ xAr F (c + 1) 8 w ∧ xAr F (c + 2) 8 ln ∧ xAr F (c + 3) 8 vl ∧ xAr F (c + 4) 8 od ∧ (∃ g5, xAr F (c + 5) 8 g5) ∧ (∃ g6, xAr F (c + 6) 8 g6) ∧ xCb w ln vl od js
theorem xCd_fr {F F1 : xF} {c : Nat} {w ln vl od : Nat → Nat} {js : Nat} (h : xCd F c w ln vl od js) (hf : ∀ a, c ≤ a → a < c + 7 → F1 a = F a) : xCd F1 c w ln vl od js := by
  obtain ⟨h0, h1, h2, h3, h4, ⟨g5, h5⟩, ⟨g6, h6⟩, hb⟩ := h
  exact ⟨(hf _ (by omega) (by omega)).trans h0, xAr_fr h1 (hf _ (by omega) (by omega)), xAr_fr h2 (hf _ (by omega) (by omega)), xAr_fr h3 (hf _ (by omega) (by omega)), xAr_fr h4 (hf _ (by omega) (by omega)), ⟨g5, xAr_fr h5 (hf _ (by omega) (by omega))⟩, ⟨g6, xAr_fr h6 (hf _ (by omega) (by omega))⟩, hb⟩
/-- of the length of a code, by the symbol's sign -/
def lenF (ln : Nat → Nat) (c : Nat) : Nat := if 97 ≤ c ∧ c < 105 then ln (c - 97) else 0
def bitsN (ln s : Nat → Nat) : Nat → Nat
  | 0 => 0
  | n + 1 => bitsN ln s n + lenF ln (s n)
theorem lenF_le {ln : Nat → Nat} (h : ∀ j, j < 8 → ln j ≤ 7) (c : Nat) : lenF ln c ≤ 7 := by
  unfold lenF
  split
  · exact h _ (by omega)
  · omega
theorem bitsN_le {ln : Nat → Nat} (h : ∀ j, j < 8 → ln j ≤ 7) (s : Nat → Nat) : ∀ n, bitsN ln s n ≤ 7 * n
  | 0 => Nat.le_refl 0
  | n + 1 => by
    have h1 := bitsN_le h s n
    have h2 := lenF_le h (s n)
    unfold bitsN
    omega
def maxN (f : Nat → Nat) : Nat → Nat
  | 0 => 0
  | k + 1 => if maxN f k < f k then f k else maxN f k
theorem maxN_le {f : Nat → Nat} {c : Nat} : ∀ k, (∀ j, j < k → f j ≤ c) → maxN f k ≤ c
  | 0, _ => Nat.zero_le _
  | k + 1, h => by
    have h1 := maxN_le k (fun j hj => h j (by omega))
    have h2 := h k (by omega)
    unfold maxN
    split <;> omega
/-- the first symbol with this length and value; 8: none -/
def symF (ln vl : Nat → Nat) (v l : Nat) : Nat → Nat
  | 0 => 8
  | k + 1 => if symF ln vl v l k < 8 then symF ln vl v l k else if ln k = l ∧ vl k = v then k else 8
theorem symF_ge (ln vl : Nat → Nat) (v l : Nat) : ∀ k, k ≤ 8 → symF ln vl v l k = 8 ∨ symF ln vl v l k < k
  | 0, _ => Or.inl rfl
  | k + 1, h => by
    have h1 := symF_ge ln vl v l k (by omega)
    unfold symF
    split
    · omega
    · split <;> omega
theorem symF_first {ln vl : Nat → Nat} {v l i : Nat} (hi : i < 8) (h1 : ln i = l ∧ vl i = v) (h0 : ∀ j, j < i → ¬ (ln j = l ∧ vl j = v)) : symF ln vl v l 8 = i := by
  have a : ∀ k, k ≤ i → symF ln vl v l k = 8 := by
    intro k
    induction k with
    | zero => intro _; rfl
    | succ k ih =>
      intro hk
      unfold symF
      rw [ih (by omega), if_neg (by omega), if_neg (h0 k (by omega))]
  have b : ∀ k, i < k → k ≤ 8 → symF ln vl v l k = i := by
    intro k
    induction k with
    | zero => intro h _; omega
    | succ k ih =>
      intro hk hk8
      unfold symF
      by_cases e : i = k
      · subst e
        rw [a i (by omega), if_neg (by omega), if_pos h1]
      · rw [ih (by omega) (by omega), if_pos hi]
  exact b 8 (by omega) (by omega)
theorem symF_none {ln vl : Nat → Nat} {v l : Nat} (h0 : ∀ j, j < 8 → ¬ (ln j = l ∧ vl j = v)) : ∀ k, k ≤ 8 → symF ln vl v l k = 8
  | 0, _ => rfl
  | k + 1, h => by
    unfold symF
    rw [symF_none h0 k (by omega), if_neg (by omega), if_neg (h0 k (by omega))]
/-- the giving of values: rank, next, values, order -/
abbrev hV : Type := Nat × Nat × (Nat → Nat) × (Nat → Nat)
def hVi (ln : Nat → Nat) (l : Nat) : Nat → hV → hV
  | 0, v => v
  | k + 1, v => if ln k = l ∧ (hVi ln l k v).1 < 8 then ((hVi ln l k v).1 + 1, (hVi ln l k v).2.1 + 1, updN (hVi ln l k v).2.2.1 k (hVi ln l k v).2.1, updN (hVi ln l k v).2.2.2 (hVi ln l k v).1 k) else hVi ln l k v
def hVo (ln v0 o0 : Nat → Nat) : Nat → hV
  | 0 => (0, 0, v0, o0)
  | t + 1 => hVi ln (t + 1) 8 ((hVo ln v0 o0 t).1, (hVo ln v0 o0 t).2.1 * 2, (hVo ln v0 o0 t).2.2.1, (hVo ln v0 o0 t).2.2.2)

theorem d_MessageCoder_isSymbol_0 : decode prog_1_method_64_code 0 = .ok (.iload_n 0, 1) := by decide +kernel
theorem d_MessageCoder_isSymbol_1 : decode prog_1_method_64_code 1 = .ok (.bipush 97, 2) := by decide +kernel
theorem d_MessageCoder_isSymbol_3 : decode prog_1_method_64_code 3 = .ok (.if_icmp .lt 13, 3) := by decide +kernel
theorem d_MessageCoder_isSymbol_6 : decode prog_1_method_64_code 6 = .ok (.iload_n 0, 1) := by decide +kernel
theorem d_MessageCoder_isSymbol_7 : decode prog_1_method_64_code 7 = .ok (.bipush 105, 2) := by decide +kernel
theorem d_MessageCoder_isSymbol_9 : decode prog_1_method_64_code 9 = .ok (.if_icmp .ge 7, 3) := by decide +kernel
theorem d_MessageCoder_isSymbol_12 : decode prog_1_method_64_code 12 = .ok (.iconst 1, 1) := by decide +kernel
theorem d_MessageCoder_isSymbol_13 : decode prog_1_method_64_code 13 = .ok (.goto 4, 3) := by decide +kernel
theorem d_MessageCoder_isSymbol_16 : decode prog_1_method_64_code 16 = .ok (.iconst 0, 1) := by decide +kernel
theorem d_MessageCoder_isSymbol_17 : decode prog_1_method_64_code 17 = .ok (.ireturn, 1) := by decide +kernel
set_option maxHeartbeats 4000000 in
set_option maxRecDepth 20000 in
theorem c_MessageCoder_isSymbol {P : xP} {F : xF} {z : Nat} {c : Nat}  (hcb : c < 2 ^ 31) : xM P xy_MessageCoder_isSymbol [.int (nI (c))] F z 0 0 (fun r9 F9 z9 => r9 = some (.int (xb (97 ≤ c ∧ c < 105))) ∧ F9 = F ∧ z9 = z) := by
  refine xM_i .boolean rfl (Nat.le_of_ble_eq_true rfl) (L0 := [some (.int (nI (c)))]) rfl rfl fun Θ hC hret => ?_
  refine x_iload_n hC d_MessageCoder_isSymbol_0 rfl rfl ?_
  refine x_bipush hC d_MessageCoder_isSymbol_1 (v := nI 97) (by decide) ?_
  refine x_icmpN_lt hC d_MessageCoder_isSymbol_3 (tgt := 16) (by decide) (by omega) (by omega) (fun c_3 => ?_) (fun c_3 => ?_)
  · skip
    refine x_iconst hC d_MessageCoder_isSymbol_16 (v := nI 0) (by decide) ?_
    exact hret _ _ _ _ _ _ _ d_MessageCoder_isSymbol_17 (by decide) (by decide) rfl (⟨congrArg (fun q => some (Value.int q)) (xb_f0 (by omega)), rfl, rfl⟩)
  · skip
    refine x_iload_n hC d_MessageCoder_isSymbol_6 rfl rfl ?_
    refine x_bipush hC d_MessageCoder_isSymbol_7 (v := nI 105) (by decide) ?_
    refine x_icmpN_ge hC d_MessageCoder_isSymbol_9 (tgt := 16) (by decide) (by omega) (by omega) (fun c_9 => ?_) (fun c_9 => ?_)
    · skip
      refine x_iconst hC d_MessageCoder_isSymbol_16 (v := nI 0) (by decide) ?_
      exact hret _ _ _ _ _ _ _ d_MessageCoder_isSymbol_17 (by decide) (by decide) rfl (⟨congrArg (fun q => some (Value.int q)) (xb_f0 (by omega)), rfl, rfl⟩)
    · skip
      refine x_iconst hC d_MessageCoder_isSymbol_12 (v := nI 1) (by decide) ?_
      refine x_goto hC d_MessageCoder_isSymbol_13 (tgt := 17) (by decide) ?_
      exact hret _ _ _ _ _ _ _ d_MessageCoder_isSymbol_17 (by decide) (by decide) rfl (⟨congrArg (fun q => some (Value.int q)) (xb_t1 (by omega)), rfl, rfl⟩)

theorem d_MessageCoder_isPriority_0 : decode prog_1_method_65_code 0 = .ok (.iload_n 0, 1) := by decide +kernel
theorem d_MessageCoder_isPriority_1 : decode prog_1_method_65_code 1 = .ok (.iconst 1, 1) := by decide +kernel
theorem d_MessageCoder_isPriority_2 : decode prog_1_method_65_code 2 = .ok (.if_icmp .lt 12, 3) := by decide +kernel
theorem d_MessageCoder_isPriority_5 : decode prog_1_method_65_code 5 = .ok (.iload_n 0, 1) := by decide +kernel
theorem d_MessageCoder_isPriority_6 : decode prog_1_method_65_code 6 = .ok (.iconst 5, 1) := by decide +kernel
theorem d_MessageCoder_isPriority_7 : decode prog_1_method_65_code 7 = .ok (.if_icmp .gt 7, 3) := by decide +kernel
theorem d_MessageCoder_isPriority_10 : decode prog_1_method_65_code 10 = .ok (.iconst 1, 1) := by decide +kernel
theorem d_MessageCoder_isPriority_11 : decode prog_1_method_65_code 11 = .ok (.goto 4, 3) := by decide +kernel
theorem d_MessageCoder_isPriority_14 : decode prog_1_method_65_code 14 = .ok (.iconst 0, 1) := by decide +kernel
theorem d_MessageCoder_isPriority_15 : decode prog_1_method_65_code 15 = .ok (.ireturn, 1) := by decide +kernel
set_option maxHeartbeats 4000000 in
set_option maxRecDepth 20000 in
theorem c_MessageCoder_isPriority {P : xP} {F : xF} {z : Nat} {p : Int32}   : xM P xy_MessageCoder_isPriority [.int p] F z 0 0 (fun r9 F9 z9 => r9 = some (.int (xb (1 ≤ p ∧ p ≤ 5))) ∧ F9 = F ∧ z9 = z) := by
  refine xM_i .boolean rfl (Nat.le_of_ble_eq_true rfl) (L0 := [some (.int p)]) rfl rfl fun Θ hC hret => ?_
  refine x_iload_n hC d_MessageCoder_isPriority_0 rfl rfl ?_
  refine x_iconst hC d_MessageCoder_isPriority_1 (v := 1) (by decide) ?_
  refine x_icmp_lt hC d_MessageCoder_isPriority_2 (tgt := 14) (by decide) (fun c_2 => ?_) (fun c_2 => ?_)
  · skip
    refine x_iconst hC d_MessageCoder_isPriority_14 (v := nI 0) (by decide) ?_
    exact hret _ _ _ _ _ _ _ d_MessageCoder_isPriority_15 (by decide) (by decide) rfl (⟨congrArg (fun q => some (Value.int q)) (xb_f0 (fun h9 => k2_nle c_2 h9.1)), rfl, rfl⟩)
  · skip
    refine x_iload_n hC d_MessageCoder_isPriority_5 rfl rfl ?_
    refine x_iconst hC d_MessageCoder_isPriority_6 (v := 5) (by decide) ?_
    refine x_icmp_gt hC d_MessageCoder_isPriority_7 (tgt := 14) (by decide) (fun c_7 => ?_) (fun c_7 => ?_)
    · skip
      refine x_iconst hC d_MessageCoder_isPriority_14 (v := nI 0) (by decide) ?_
      exact hret _ _ _ _ _ _ _ d_MessageCoder_isPriority_15 (by decide) (by decide) rfl (⟨congrArg (fun q => some (Value.int q)) (xb_f0 (fun h9 => k2_nle c_7 h9.2)), rfl, rfl⟩)
    · skip
      refine x_iconst hC d_MessageCoder_isPriority_10 (v := nI 1) (by decide) ?_
      refine x_goto hC d_MessageCoder_isPriority_11 (tgt := 15) (by decide) ?_
      exact hret _ _ _ _ _ _ _ d_MessageCoder_isPriority_15 (by decide) (by decide) rfl (⟨congrArg (fun q => some (Value.int q)) (xb_t1 ⟨k2_le c_2, k2_le c_7⟩), rfl, rfl⟩)

theorem d_Code_lengthFor_0 : decode prog_4_method_11_code 0 = .ok (.iload_n 1, 1) := by decide +kernel
theorem d_Code_lengthFor_1 : decode prog_4_method_11_code 1 = .ok (.invokestatic 60, 3) := by decide +kernel
theorem d_Code_lengthFor_4 : decode prog_4_method_11_code 4 = .ok (.ifCond .eq 15, 3) := by decide +kernel
theorem d_Code_lengthFor_7 : decode prog_4_method_11_code 7 = .ok (.aload_n 0, 1) := by decide +kernel
theorem d_Code_lengthFor_8 : decode prog_4_method_11_code 8 = .ok (.getfield 15, 3) := by decide +kernel
theorem d_Code_lengthFor_11 : decode prog_4_method_11_code 11 = .ok (.iload_n 1, 1) := by decide +kernel
theorem d_Code_lengthFor_12 : decode prog_4_method_11_code 12 = .ok (.bipush 97, 2) := by decide +kernel
theorem d_Code_lengthFor_14 : decode prog_4_method_11_code 14 = .ok (.isub, 1) := by decide +kernel
theorem d_Code_lengthFor_15 : decode prog_4_method_11_code 15 = .ok (.iaload, 1) := by decide +kernel
theorem d_Code_lengthFor_16 : decode prog_4_method_11_code 16 = .ok (.goto 4, 3) := by decide +kernel
theorem d_Code_lengthFor_19 : decode prog_4_method_11_code 19 = .ok (.iconst 0, 1) := by decide +kernel
theorem d_Code_lengthFor_20 : decode prog_4_method_11_code 20 = .ok (.ireturn, 1) := by decide +kernel
set_option maxHeartbeats 4000000 in
set_option maxRecDepth 20000 in
theorem c_Code_lengthFor {P : xP} {F : xF} {z : Nat} {c : Nat} {w : Nat → Nat} {ln : Nat → Nat} {vl : Nat → Nat} {od : Nat → Nat} {js : Nat} {s : Nat} (hc : xCd F (c) (w) (ln) (vl) (od) (js)) (hs : s < 2 ^ 31) : xM P xy_Code_lengthFor [.ref c, .int (nI (s))] F z 0 0 (fun r9 F9 z9 => r9 = some (.int (nI (lenF ln s))) ∧ F9 = F ∧ z9 = z) := by
  refine xM_i .int rfl (Nat.le_of_ble_eq_true rfl) (L0 := [some (.ref c), some (.int (nI (s)))]) rfl rfl fun Θ hC hret => ?_
  obtain ⟨h0, ⟨g1, h1, k1⟩, ⟨g2, h2, k2⟩, ⟨g3, h3, k3⟩, ⟨g4, h4, k4⟩, ⟨g5x, g5, h5, k5⟩, ⟨g6x, g6, h6, k6⟩, hbd, hjs⟩ := id hc
  refine x_iload_n hC d_Code_lengthFor_0 rfl rfl ?_
  refine x_callS hC ks_Code_60 (c_MessageCoder_isSymbol (hcb := by omega)) (by decide) rfl rfl rfl (Nat.le_of_ble_eq_true rfl) (by decide) d_Code_lengthFor_1 (fun r9 F9 z9 hp9 => ?_)
  obtain ⟨rfl, h9b, h9c⟩ := hp9
  rw [h9b, h9c]
  clear h9b h9c F9 z9
  refine x_ifB_eq hC d_Code_lengthFor_4 (tgt := 19) (by decide) (fun c_4 => ?_) (fun c_4 => ?_)
  · skip
    refine x_iconst hC d_Code_lengthFor_19 (v := nI 0) (by decide) ?_
    exact hret _ _ _ _ _ _ _ d_Code_lengthFor_20 (by decide) (by decide) rfl (⟨congrArg (fun q => some (Value.int (nI q))) ((if_neg c_4).symm), rfl, rfl⟩)
  · skip
    refine x_aload_n hC d_Code_lengthFor_7 rfl rfl ?_
    refine x_getf hC kf_Code_15 h0 rfl d_Code_lengthFor_8 ?_
    refine x_iload_n hC d_Code_lengthFor_11 rfl rfl ?_
    refine x_bipush hC d_Code_lengthFor_12 (v := nI 97) (by decide) ?_
    refine x_isub hC d_Code_lengthFor_14 (v := (nI ((s) - 97))) (pk_sub (by omega)) ?_
    refine x_iald hC h2 (j := (s) - 97) ⟨rfl, by omega, by omega⟩ (x := nI (g2 ((s) - 97))) rfl d_Code_lengthFor_15 ?_
    refine x_goto hC d_Code_lengthFor_16 (tgt := 20) (by decide) ?_
    exact hret _ _ _ _ _ _ _ d_Code_lengthFor_20 (by decide) (by decide) rfl (⟨congrArg (fun q => some (Value.int (nI q))) ((k2 _ (by omega)).trans (if_pos c_4).symm), rfl, rfl⟩)

theorem d_Code_valueFor_0 : decode prog_4_method_12_code 0 = .ok (.iload_n 1, 1) := by decide +kernel
theorem d_Code_valueFor_1 : decode prog_4_method_12_code 1 = .ok (.invokestatic 60, 3) := by decide +kernel
theorem d_Code_valueFor_4 : decode prog_4_method_12_code 4 = .ok (.ifCond .eq 15, 3) := by decide +kernel
theorem d_Code_valueFor_7 : decode prog_4_method_12_code 7 = .ok (.aload_n 0, 1) := by decide +kernel
theorem d_Code_valueFor_8 : decode prog_4_method_12_code 8 = .ok (.getfield 18, 3) := by decide +kernel
theorem d_Code_valueFor_11 : decode prog_4_method_12_code 11 = .ok (.iload_n 1, 1) := by decide +kernel
theorem d_Code_valueFor_12 : decode prog_4_method_12_code 12 = .ok (.bipush 97, 2) := by decide +kernel
theorem d_Code_valueFor_14 : decode prog_4_method_12_code 14 = .ok (.isub, 1) := by decide +kernel
theorem d_Code_valueFor_15 : decode prog_4_method_12_code 15 = .ok (.iaload, 1) := by decide +kernel
theorem d_Code_valueFor_16 : decode prog_4_method_12_code 16 = .ok (.goto 4, 3) := by decide +kernel
theorem d_Code_valueFor_19 : decode prog_4_method_12_code 19 = .ok (.iconst 0, 1) := by decide +kernel
theorem d_Code_valueFor_20 : decode prog_4_method_12_code 20 = .ok (.ireturn, 1) := by decide +kernel
set_option maxHeartbeats 4000000 in
set_option maxRecDepth 20000 in
theorem c_Code_valueFor {P : xP} {F : xF} {z : Nat} {c : Nat} {w : Nat → Nat} {ln : Nat → Nat} {vl : Nat → Nat} {od : Nat → Nat} {js : Nat} {s : Nat} (hc : xCd F (c) (w) (ln) (vl) (od) (js)) (hs : s < 2 ^ 31) : xM P xy_Code_valueFor [.ref c, .int (nI (s))] F z 0 0 (fun r9 F9 z9 => r9 = some (.int (nI (lenF vl s))) ∧ F9 = F ∧ z9 = z) := by
  refine xM_i .int rfl (Nat.le_of_ble_eq_true rfl) (L0 := [some (.ref c), some (.int (nI (s)))]) rfl rfl fun Θ hC hret => ?_
  obtain ⟨h0, ⟨g1, h1, k1⟩, ⟨g2, h2, k2⟩, ⟨g3, h3, k3⟩, ⟨g4, h4, k4⟩, ⟨g5x, g5, h5, k5⟩, ⟨g6x, g6, h6, k6⟩, hbd, hjs⟩ := id hc
  refine x_iload_n hC d_Code_valueFor_0 rfl rfl ?_
  refine x_callS hC ks_Code_60 (c_MessageCoder_isSymbol (hcb := by omega)) (by decide) rfl rfl rfl (Nat.le_of_ble_eq_true rfl) (by decide) d_Code_valueFor_1 (fun r9 F9 z9 hp9 => ?_)
  obtain ⟨rfl, h9b, h9c⟩ := hp9
  rw [h9b, h9c]
  clear h9b h9c F9 z9
  refine x_ifB_eq hC d_Code_valueFor_4 (tgt := 19) (by decide) (fun c_4 => ?_) (fun c_4 => ?_)
  · skip
    refine x_iconst hC d_Code_valueFor_19 (v := nI 0) (by decide) ?_
    exact hret _ _ _ _ _ _ _ d_Code_valueFor_20 (by decide) (by decide) rfl (⟨congrArg (fun q => some (Value.int (nI q))) ((if_neg c_4).symm), rfl, rfl⟩)
  · skip
    refine x_aload_n hC d_Code_valueFor_7 rfl rfl ?_
    refine x_getf hC kf_Code_18 h0 rfl d_Code_valueFor_8 ?_
    refine x_iload_n hC d_Code_valueFor_11 rfl rfl ?_
    refine x_bipush hC d_Code_valueFor_12 (v := nI 97) (by decide) ?_
    refine x_isub hC d_Code_valueFor_14 (v := (nI ((s) - 97))) (pk_sub (by omega)) ?_
    refine x_iald hC h3 (j := (s) - 97) ⟨rfl, by omega, by omega⟩ (x := nI (g3 ((s) - 97))) rfl d_Code_valueFor_15 ?_
    refine x_goto hC d_Code_valueFor_16 (tgt := 20) (by decide) ?_
    exact hret _ _ _ _ _ _ _ d_Code_valueFor_20 (by decide) (by decide) rfl (⟨congrArg (fun q => some (Value.int (nI q))) ((k3 _ (by omega)).trans (if_pos c_4).symm), rfl, rfl⟩)

theorem d_Code_weightSum_0 : decode prog_4_method_8_code 0 = .ok (.iconst 0, 1) := by decide +kernel
theorem d_Code_weightSum_1 : decode prog_4_method_8_code 1 = .ok (.istore_n 1, 1) := by decide +kernel
theorem d_Code_weightSum_2 : decode prog_4_method_8_code 2 = .ok (.iconst 0, 1) := by decide +kernel
theorem d_Code_weightSum_3 : decode prog_4_method_8_code 3 = .ok (.istore_n 2, 1) := by decide +kernel
theorem d_Code_weightSum_4 : decode prog_4_method_8_code 4 = .ok (.iload_n 2, 1) := by decide +kernel
theorem d_Code_weightSum_5 : decode prog_4_method_8_code 5 = .ok (.bipush 8, 2) := by decide +kernel
theorem d_Code_weightSum_7 : decode prog_4_method_8_code 7 = .ok (.if_icmp .ge 18, 3) := by decide +kernel
theorem d_Code_weightSum_10 : decode prog_4_method_8_code 10 = .ok (.iload_n 1, 1) := by decide +kernel
theorem d_Code_weightSum_11 : decode prog_4_method_8_code 11 = .ok (.aload_n 0, 1) := by decide +kernel
theorem d_Code_weightSum_12 : decode prog_4_method_8_code 12 = .ok (.getfield 9, 3) := by decide +kernel
theorem d_Code_weightSum_15 : decode prog_4_method_8_code 15 = .ok (.iload_n 2, 1) := by decide +kernel
theorem d_Code_weightSum_16 : decode prog_4_method_8_code 16 = .ok (.iaload, 1) := by decide +kernel
theorem d_Code_weightSum_17 : decode prog_4_method_8_code 17 = .ok (.iadd, 1) := by decide +kernel
theorem d_Code_weightSum_18 : decode prog_4_method_8_code 18 = .ok (.istore_n 1, 1) := by decide +kernel
theorem d_Code_weightSum_19 : decode prog_4_method_8_code 19 = .ok (.iinc 2 1, 3) := by decide +kernel
theorem d_Code_weightSum_22 : decode prog_4_method_8_code 22 = .ok (.goto (-18), 3) := by decide +kernel
theorem d_Code_weightSum_25 : decode prog_4_method_8_code 25 = .ok (.iload_n 1, 1) := by decide +kernel
theorem d_Code_weightSum_26 : decode prog_4_method_8_code 26 = .ok (.ireturn, 1) := by decide +kernel
set_option maxHeartbeats 4000000 in
set_option maxRecDepth 20000 in
theorem c_Code_weightSum {P : xP} {F : xF} {z : Nat} {c : Nat} {w : Nat → Nat} {ln : Nat → Nat} {vl : Nat → Nat} {od : Nat → Nat} {js : Nat} (hc : xCd F (c) (w) (ln) (vl) (od) (js))  : xM P xy_Code_weightSum [.ref c] F z 0 0 (fun r9 F9 z9 => r9 = some (.int (nI (sumN w 8))) ∧ F9 = F ∧ z9 = z) := by
  refine xM_i .int rfl (Nat.le_of_ble_eq_true rfl) (L0 := [some (.ref c), none, none]) rfl rfl fun Θ hC hret => ?_
  obtain ⟨h0, ⟨g1, h1, k1⟩, ⟨g2, h2, k2⟩, ⟨g3, h3, k3⟩, ⟨g4, h4, k4⟩, ⟨g5x, g5, h5, k5⟩, ⟨g6x, g6, h6, k6⟩, hbd, hjs⟩ := id hc
  refine x_iconst hC d_Code_weightSum_0 (v := nI 0) (by decide) ?_
  refine x_istore_n hC d_Code_weightSum_1 rfl (Nat.le_of_ble_eq_true rfl) (L1 := [some (.ref c), some (.int (nI 0)), none]) rfl ?_
  refine x_iconst hC d_Code_weightSum_2 (v := nI 0) (by decide) ?_
  refine x_istore_n hC d_Code_weightSum_3 rfl (Nat.le_of_ble_eq_true rfl) (L1 := [some (.ref c), some (.int (nI 0)), some (.int (nI 0))]) rfl ?_
  have loop_4 : ∀ (m9 : Nat) (i : Nat) (q1 : Nat), (F (c) = some (.inl (1, [.ref (c + 1), .ref (c + 2), .ref (c + 3), .ref (c + 4), .ref (c + 5), .ref (c + 6), .int (nI (js))]))) → (F (c + 1) = some (.inr (0, 8, fun b9 => .int (nI (g1 b9))))) → (F (c + 2) = some (.inr (0, 8, fun b9 => .int (nI (g2 b9))))) → (F (c + 3) = some (.inr (0, 8, fun b9 => .int (nI (g3 b9))))) → (F (c + 4) = some (.inr (0, 8, fun b9 => .int (nI (g4 b9))))) → (F (c + 5) = some (.inr (0, 8, fun b9 => .int (nI (g5 b9))))) → (F (c + 6) = some (.inr (0, 8, fun b9 => .int (nI (g6 b9))))) → (i ≤ 8) → (q1 = sumN w i) → (8 - i < m9) → xX P Θ 4 [some (.ref c), some (.int (nI (q1))), some (.int (nI (i)))] [] F (z) 0 0 := by
    intro m9
    induction m9 with
    | zero => intros; omega
    | succ m9 ih_4 =>
      intro  i q1 h0 h1 h2 h3 h4 h5 h6 hi kq hm_4
      have hq1 : q1 ≤ 99 * i := by rw [kq]; exact sumN_bd 99 i (fun j hj => (hbd j (by omega)).1)
      refine x_iload_n hC d_Code_weightSum_4 rfl rfl ?_
      refine x_bipush hC d_Code_weightSum_5 (v := nI 8) (by decide) ?_
      refine x_icmpN_ge hC d_Code_weightSum_7 (tgt := 25) (by decide) (by omega) (by omega) (fun c_7 => ?_) (fun c_7 => ?_)
      · skip
        refine x_iload_n hC d_Code_weightSum_25 rfl rfl ?_
        exact hret _ _ _ _ _ _ _ d_Code_weightSum_26 (by decide) (by decide) rfl (⟨by rw [kq, show i = 8 by omega], rfl, rfl⟩)
      · skip
        refine x_iload_n hC d_Code_weightSum_10 rfl rfl ?_
        refine x_aload_n hC d_Code_weightSum_11 rfl rfl ?_
        refine x_getf hC kf_Code_9 h0 rfl d_Code_weightSum_12 ?_
        refine x_iload_n hC d_Code_weightSum_15 rfl rfl ?_
        refine x_iald hC h1 (j := i) ⟨rfl, by omega, by omega⟩ (x := nI (g1 (i))) rfl d_Code_weightSum_16 ?_
        refine x_iadd hC d_Code_weightSum_17 (v := (nI ((q1) + (g1 (i))))) (x_addN (by omega)) ?_
        refine x_istore_n hC d_Code_weightSum_18 rfl (Nat.le_of_ble_eq_true rfl) (L1 := [some (.ref c), some (.int (nI ((q1) + (g1 (i))))), some (.int (nI (i)))]) rfl ?_
        refine x_iinc hC d_Code_weightSum_19 rfl (v := (nI (i + 1))) (x_incN 1) (Nat.le_of_ble_eq_true rfl) (L1 := [some (.ref c), some (.int (nI ((q1) + (g1 (i))))), some (.int (nI (i + 1)))]) rfl ?_
        refine x_goto hC d_Code_weightSum_22 (tgt := 4) (by decide) ?_
        exact ih_4  (i + 1) ((q1) + (g1 (i))) h0 h1 h2 h3 h4 h5 h6 (by omega) (by rw [kq, k1 i (by omega)]; rfl) (by omega)
  exact loop_4 (8 - 0 + 1)  (0) (0) h0 h1 h2 h3 h4 h5 h6 (by omega) (rfl) (by omega)

theorem d_Code_longest_0 : decode prog_4_method_9_code 0 = .ok (.iconst 0, 1) := by decide +kernel
theorem d_Code_longest_1 : decode prog_4_method_9_code 1 = .ok (.istore_n 1, 1) := by decide +kernel
theorem d_Code_longest_2 : decode prog_4_method_9_code 2 = .ok (.iconst 0, 1) := by decide +kernel
theorem d_Code_longest_3 : decode prog_4_method_9_code 3 = .ok (.istore_n 2, 1) := by decide +kernel
theorem d_Code_longest_4 : decode prog_4_method_9_code 4 = .ok (.iload_n 2, 1) := by decide +kernel
theorem d_Code_longest_5 : decode prog_4_method_9_code 5 = .ok (.bipush 8, 2) := by decide +kernel
theorem d_Code_longest_7 : decode prog_4_method_9_code 7 = .ok (.if_icmp .ge 20, 3) := by decide +kernel
theorem d_Code_longest_10 : decode prog_4_method_9_code 10 = .ok (.iload_n 1, 1) := by decide +kernel
theorem d_Code_longest_11 : decode prog_4_method_9_code 11 = .ok (.aload_n 0, 1) := by decide +kernel
theorem d_Code_longest_12 : decode prog_4_method_9_code 12 = .ok (.getfield 15, 3) := by decide +kernel
theorem d_Code_longest_15 : decode prog_4_method_9_code 15 = .ok (.iload_n 2, 1) := by decide +kernel
theorem d_Code_longest_16 : decode prog_4_method_9_code 16 = .ok (.iaload, 1) := by decide +kernel
theorem d_Code_longest_17 : decode prog_4_method_9_code 17 = .ok (.invokestatic 57, 3) := by decide +kernel
theorem d_Code_longest_20 : decode prog_4_method_9_code 20 = .ok (.istore_n 1, 1) := by decide +kernel
theorem d_Code_longest_21 : decode prog_4_method_9_code 21 = .ok (.iinc 2 1, 3) := by decide +kernel
theorem d_Code_longest_24 : decode prog_4_method_9_code 24 = .ok (.goto (-20), 3) := by decide +kernel
theorem d_Code_longest_27 : decode prog_4_method_9_code 27 = .ok (.iload_n 1, 1) := by decide +kernel
theorem d_Code_longest_28 : decode prog_4_method_9_code 28 = .ok (.ireturn, 1) := by decide +kernel
set_option maxHeartbeats 4000000 in
set_option maxRecDepth 20000 in
theorem c_Code_longest {P : xP} {F : xF} {z : Nat} {c : Nat} {w : Nat → Nat} {ln : Nat → Nat} {vl : Nat → Nat} {od : Nat → Nat} {js : Nat} (hc : xCd F (c) (w) (ln) (vl) (od) (js))  : xM P xy_Code_longest [.ref c] F z 0 0 (fun r9 F9 z9 => r9 = some (.int (nI (maxN ln 8))) ∧ F9 = F ∧ z9 = z) := by
  refine xM_i .int rfl (Nat.le_of_ble_eq_true rfl) (L0 := [some (.ref c), none, none]) rfl rfl fun Θ hC hret => ?_
  obtain ⟨h0, ⟨g1, h1, k1⟩, ⟨g2, h2, k2⟩, ⟨g3, h3, k3⟩, ⟨g4, h4, k4⟩, ⟨g5x, g5, h5, k5⟩, ⟨g6x, g6, h6, k6⟩, hbd, hjs⟩ := id hc
  refine x_iconst hC d_Code_longest_0 (v := nI 0) (by decide) ?_
  refine x_istore_n hC d_Code_longest_1 rfl (Nat.le_of_ble_eq_true rfl) (L1 := [some (.ref c), some (.int (nI 0)), none]) rfl ?_
  refine x_iconst hC d_Code_longest_2 (v := nI 0) (by decide) ?_
  refine x_istore_n hC d_Code_longest_3 rfl (Nat.le_of_ble_eq_true rfl) (L1 := [some (.ref c), some (.int (nI 0)), some (.int (nI 0))]) rfl ?_
  have loop_4 : ∀ (m9 : Nat) (i : Nat) (q1 : Nat), (F (c) = some (.inl (1, [.ref (c + 1), .ref (c + 2), .ref (c + 3), .ref (c + 4), .ref (c + 5), .ref (c + 6), .int (nI (js))]))) → (F (c + 1) = some (.inr (0, 8, fun b9 => .int (nI (g1 b9))))) → (F (c + 2) = some (.inr (0, 8, fun b9 => .int (nI (g2 b9))))) → (F (c + 3) = some (.inr (0, 8, fun b9 => .int (nI (g3 b9))))) → (F (c + 4) = some (.inr (0, 8, fun b9 => .int (nI (g4 b9))))) → (F (c + 5) = some (.inr (0, 8, fun b9 => .int (nI (g5 b9))))) → (F (c + 6) = some (.inr (0, 8, fun b9 => .int (nI (g6 b9))))) → (i ≤ 8) → (q1 = maxN ln i) → (8 - i < m9) → xX P Θ 4 [some (.ref c), some (.int (nI (q1))), some (.int (nI (i)))] [] F (z) 0 0 := by
    intro m9
    induction m9 with
    | zero => intros; omega
    | succ m9 ih_4 =>
      intro  i q1 h0 h1 h2 h3 h4 h5 h6 hi kq hm_4
      have hq1 : q1 ≤ 7 := by rw [kq]; exact maxN_le i (fun j hj => (hbd j (by omega)).2.1)
      refine x_iload_n hC d_Code_longest_4 rfl rfl ?_
      refine x_bipush hC d_Code_longest_5 (v := nI 8) (by decide) ?_
      refine x_icmpN_ge hC d_Code_longest_7 (tgt := 27) (by decide) (by omega) (by omega) (fun c_7 => ?_) (fun c_7 => ?_)
      · skip
        refine x_iload_n hC d_Code_longest_27 rfl rfl ?_
        exact hret _ _ _ _ _ _ _ d_Code_longest_28 (by decide) (by decide) rfl (⟨by rw [kq, show i = 8 by omega], rfl, rfl⟩)
      · skip
        refine x_iload_n hC d_Code_longest_10 rfl rfl ?_
        refine x_aload_n hC d_Code_longest_11 rfl rfl ?_
        refine x_getf hC kf_Code_15 h0 rfl d_Code_longest_12 ?_
        refine x_iload_n hC d_Code_longest_15 rfl rfl ?_
        refine x_iald hC h2 (j := i) ⟨rfl, by omega, by omega⟩ (x := nI (g2 (i))) rfl d_Code_longest_16 ?_
        have hb9 : g2 i ≤ 7 := by rw [k2 i (by omega)]; exact (hbd i (by omega)).2.1
        refine x_mmaxN hC km_Code_57 (by omega) (by omega) rfl (by decide) (Nat.le_of_ble_eq_true rfl) (by decide) d_Code_longest_17 (v := if q1 < g2 (i) then g2 (i) else q1) rfl ?_
        refine x_istore_n hC d_Code_longest_20 rfl (Nat.le_of_ble_eq_true rfl) (L1 := [some (.ref c), some (.int (nI (if q1 < g2 (i) then g2 (i) else q1))), some (.int (nI (i)))]) rfl ?_
        refine x_iinc hC d_Code_longest_21 rfl (v := (nI (i + 1))) (x_incN 1) (Nat.le_of_ble_eq_true rfl) (L1 := [some (.ref c), some (.int (nI (if q1 < g2 (i) then g2 (i) else q1))), some (.int (nI (i + 1)))]) rfl ?_
        refine x_goto hC d_Code_longest_24 (tgt := 4) (by decide) ?_
        exact ih_4  (i + 1) (if q1 < g2 (i) then g2 (i) else q1) h0 h1 h2 h3 h4 h5 h6 (by omega) (by rw [kq, k2 i (by omega)]; rfl) (by omega)
  exact loop_4 (8 - 0 + 1)  (0) (0) h0 h1 h2 h3 h4 h5 h6 (by omega) (rfl) (by omega)

theorem d_Code_fillsAll_0 : decode prog_4_method_10_code 0 = .ok (.iconst 0, 1) := by decide +kernel
theorem d_Code_fillsAll_1 : decode prog_4_method_10_code 1 = .ok (.istore_n 1, 1) := by decide +kernel
theorem d_Code_fillsAll_2 : decode prog_4_method_10_code 2 = .ok (.iconst 0, 1) := by decide +kernel
theorem d_Code_fillsAll_3 : decode prog_4_method_10_code 3 = .ok (.istore_n 2, 1) := by decide +kernel
theorem d_Code_fillsAll_4 : decode prog_4_method_10_code 4 = .ok (.iload_n 2, 1) := by decide +kernel
theorem d_Code_fillsAll_5 : decode prog_4_method_10_code 5 = .ok (.bipush 8, 2) := by decide +kernel
theorem d_Code_fillsAll_7 : decode prog_4_method_10_code 7 = .ok (.if_icmp .ge 23, 3) := by decide +kernel
theorem d_Code_fillsAll_10 : decode prog_4_method_10_code 10 = .ok (.iload_n 1, 1) := by decide +kernel
theorem d_Code_fillsAll_11 : decode prog_4_method_10_code 11 = .ok (.iconst 1, 1) := by decide +kernel
theorem d_Code_fillsAll_12 : decode prog_4_method_10_code 12 = .ok (.bipush 7, 2) := by decide +kernel
theorem d_Code_fillsAll_14 : decode prog_4_method_10_code 14 = .ok (.aload_n 0, 1) := by decide +kernel
theorem d_Code_fillsAll_15 : decode prog_4_method_10_code 15 = .ok (.getfield 15, 3) := by decide +kernel
theorem d_Code_fillsAll_18 : decode prog_4_method_10_code 18 = .ok (.iload_n 2, 1) := by decide +kernel
theorem d_Code_fillsAll_19 : decode prog_4_method_10_code 19 = .ok (.iaload, 1) := by decide +kernel
theorem d_Code_fillsAll_20 : decode prog_4_method_10_code 20 = .ok (.isub, 1) := by decide +kernel
theorem d_Code_fillsAll_21 : decode prog_4_method_10_code 21 = .ok (.ishl, 1) := by decide +kernel
theorem d_Code_fillsAll_22 : decode prog_4_method_10_code 22 = .ok (.iadd, 1) := by decide +kernel
theorem d_Code_fillsAll_23 : decode prog_4_method_10_code 23 = .ok (.istore_n 1, 1) := by decide +kernel
theorem d_Code_fillsAll_24 : decode prog_4_method_10_code 24 = .ok (.iinc 2 1, 3) := by decide +kernel
theorem d_Code_fillsAll_27 : decode prog_4_method_10_code 27 = .ok (.goto (-23), 3) := by decide +kernel
theorem d_Code_fillsAll_30 : decode prog_4_method_10_code 30 = .ok (.iload_n 1, 1) := by decide +kernel
theorem d_Code_fillsAll_31 : decode prog_4_method_10_code 31 = .ok (.sipush 128, 3) := by decide +kernel
theorem d_Code_fillsAll_34 : decode prog_4_method_10_code 34 = .ok (.if_icmp .ne 7, 3) := by decide +kernel
theorem d_Code_fillsAll_37 : decode prog_4_method_10_code 37 = .ok (.iconst 1, 1) := by decide +kernel
theorem d_Code_fillsAll_38 : decode prog_4_method_10_code 38 = .ok (.goto 4, 3) := by decide +kernel
theorem d_Code_fillsAll_41 : decode prog_4_method_10_code 41 = .ok (.iconst 0, 1) := by decide +kernel
theorem d_Code_fillsAll_42 : decode prog_4_method_10_code 42 = .ok (.ireturn, 1) := by decide +kernel
set_option maxHeartbeats 4000000 in
set_option maxRecDepth 20000 in
theorem c_Code_fillsAll {P : xP} {F : xF} {z : Nat} {c : Nat} {w : Nat → Nat} {ln : Nat → Nat} {vl : Nat → Nat} {od : Nat → Nat} {js : Nat} (hc : xCd F (c) (w) (ln) (vl) (od) (js))  : xM P xy_Code_fillsAll [.ref c] F z 0 0 (fun r9 F9 z9 => r9 = some (.int (xb (sumN (fun j => 2 ^ (7 - ln j)) 8 = 128))) ∧ F9 = F ∧ z9 = z) := by
  refine xM_i .boolean rfl (Nat.le_of_ble_eq_true rfl) (L0 := [some (.ref c), none, none]) rfl rfl fun Θ hC hret => ?_
  obtain ⟨h0, ⟨g1, h1, k1⟩, ⟨g2, h2, k2⟩, ⟨g3, h3, k3⟩, ⟨g4, h4, k4⟩, ⟨g5x, g5, h5, k5⟩, ⟨g6x, g6, h6, k6⟩, hbd, hjs⟩ := id hc
  refine x_iconst hC d_Code_fillsAll_0 (v := nI 0) (by decide) ?_
  refine x_istore_n hC d_Code_fillsAll_1 rfl (Nat.le_of_ble_eq_true rfl) (L1 := [some (.ref c), some (.int (nI 0)), none]) rfl ?_
  refine x_iconst hC d_Code_fillsAll_2 (v := nI 0) (by decide) ?_
  refine x_istore_n hC d_Code_fillsAll_3 rfl (Nat.le_of_ble_eq_true rfl) (L1 := [some (.ref c), some (.int (nI 0)), some (.int (nI 0))]) rfl ?_
  have loop_4 : ∀ (m9 : Nat) (i : Nat) (q1 : Nat), (F (c) = some (.inl (1, [.ref (c + 1), .ref (c + 2), .ref (c + 3), .ref (c + 4), .ref (c + 5), .ref (c + 6), .int (nI (js))]))) → (F (c + 1) = some (.inr (0, 8, fun b9 => .int (nI (g1 b9))))) → (F (c + 2) = some (.inr (0, 8, fun b9 => .int (nI (g2 b9))))) → (F (c + 3) = some (.inr (0, 8, fun b9 => .int (nI (g3 b9))))) → (F (c + 4) = some (.inr (0, 8, fun b9 => .int (nI (g4 b9))))) → (F (c + 5) = some (.inr (0, 8, fun b9 => .int (nI (g5 b9))))) → (F (c + 6) = some (.inr (0, 8, fun b9 => .int (nI (g6 b9))))) → (i ≤ 8) → (q1 = sumN (fun j => 2 ^ (7 - ln j)) i) → (8 - i < m9) → xX P Θ 4 [some (.ref c), some (.int (nI (q1))), some (.int (nI (i)))] [] F (z) 0 0 := by
    intro m9
    induction m9 with
    | zero => intros; omega
    | succ m9 ih_4 =>
      intro  i q1 h0 h1 h2 h3 h4 h5 h6 hi kq hm_4
      have hq1 : q1 ≤ 128 * i := by rw [kq]; exact sumN_bd 128 i (fun j hj => Nat.pow_le_pow_right (by omega) (show 7 - ln j ≤ 7 by omega))
      refine x_iload_n hC d_Code_fillsAll_4 rfl rfl ?_
      refine x_bipush hC d_Code_fillsAll_5 (v := nI 8) (by decide) ?_
      refine x_icmpN_ge hC d_Code_fillsAll_7 (tgt := 30) (by decide) (by omega) (by omega) (fun c_7 => ?_) (fun c_7 => ?_)
      · skip
        refine x_iload_n hC d_Code_fillsAll_30 rfl rfl ?_
        refine x_sipush hC d_Code_fillsAll_31 (v := nI 128) (by decide) ?_
        refine x_icmpN_ne hC d_Code_fillsAll_34 (tgt := 41) (by decide) (by omega) (by omega) (fun c_34 => ?_) (fun c_34 => ?_)
        · skip
          refine x_iconst hC d_Code_fillsAll_41 (v := nI 0) (by decide) ?_
          exact hret _ _ _ _ _ _ _ d_Code_fillsAll_42 (by decide) (by decide) rfl (⟨congrArg (fun q => some (Value.int q)) (xb_f0 (fun e => c_34 (by rw [kq, show i = 8 by omega]; exact e))), rfl, rfl⟩)
        · skip
          refine x_iconst hC d_Code_fillsAll_37 (v := nI 1) (by decide) ?_
          refine x_goto hC d_Code_fillsAll_38 (tgt := 42) (by decide) ?_
          exact hret _ _ _ _ _ _ _ d_Code_fillsAll_42 (by decide) (by decide) rfl (⟨congrArg (fun q => some (Value.int q)) (xb_t1 (by rw [← c_34, kq, show i = 8 by omega])), rfl, rfl⟩)
      · skip
        refine x_iload_n hC d_Code_fillsAll_10 rfl rfl ?_
        refine x_iconst hC d_Code_fillsAll_11 (v := nI 1) (by decide) ?_
        refine x_bipush hC d_Code_fillsAll_12 (v := nI 7) (by decide) ?_
        refine x_aload_n hC d_Code_fillsAll_14 rfl rfl ?_
        refine x_getf hC kf_Code_15 h0 rfl d_Code_fillsAll_15 ?_
        refine x_iload_n hC d_Code_fillsAll_18 rfl rfl ?_
        refine x_iald hC h2 (j := i) ⟨rfl, by omega, by omega⟩ (x := nI (g2 (i))) rfl d_Code_fillsAll_19 ?_
        have hb9 : g2 i ≤ 7 := by rw [k2 i (by omega)]; exact (hbd i (by omega)).2.1
        have hp9 : 2 ^ (7 - g2 i) ≤ 128 := Nat.pow_le_pow_right (by omega) (show 7 - g2 i ≤ 7 by omega)
        refine x_isub hC d_Code_fillsAll_20 (v := (nI ((7) - (g2 (i))))) (pk_sub (by omega)) ?_
        refine x_ishl hC d_Code_fillsAll_21 (v := (nI (2 ^ ((7) - (g2 (i)))))) (x_shlN (7 - g2 i) (by omega) (by omega) (by rw [Nat.one_mul])) ?_
        refine x_iadd hC d_Code_fillsAll_22 (v := (nI ((q1) + (2 ^ ((7) - (g2 (i))))))) (x_addN (by omega)) ?_
        refine x_istore_n hC d_Code_fillsAll_23 rfl (Nat.le_of_ble_eq_true rfl) (L1 := [some (.ref c), some (.int (nI ((q1) + (2 ^ ((7) - (g2 (i))))))), some (.int (nI (i)))]) rfl ?_
        refine x_iinc hC d_Code_fillsAll_24 rfl (v := (nI (i + 1))) (x_incN 1) (Nat.le_of_ble_eq_true rfl) (L1 := [some (.ref c), some (.int (nI ((q1) + (2 ^ ((7) - (g2 (i))))))), some (.int (nI (i + 1)))]) rfl ?_
        refine x_goto hC d_Code_fillsAll_27 (tgt := 4) (by decide) ?_
        exact ih_4  (i + 1) ((q1) + (2 ^ ((7) - (g2 (i))))) h0 h1 h2 h3 h4 h5 h6 (by omega) (by rw [kq, k2 i (by omega)]; rfl) (by omega)
  exact loop_4 (8 - 0 + 1)  (0) (0) h0 h1 h2 h3 h4 h5 h6 (by omega) (rfl) (by omega)

theorem d_Code_bitsFor_0 : decode prog_4_method_13_code 0 = .ok (.iconst 0, 1) := by decide +kernel
theorem d_Code_bitsFor_1 : decode prog_4_method_13_code 1 = .ok (.istore_n 2, 1) := by decide +kernel
theorem d_Code_bitsFor_2 : decode prog_4_method_13_code 2 = .ok (.iconst 0, 1) := by decide +kernel
theorem d_Code_bitsFor_3 : decode prog_4_method_13_code 3 = .ok (.istore_n 3, 1) := by decide +kernel
theorem d_Code_bitsFor_4 : decode prog_4_method_13_code 4 = .ok (.iload_n 3, 1) := by decide +kernel
theorem d_Code_bitsFor_5 : decode prog_4_method_13_code 5 = .ok (.aload_n 1, 1) := by decide +kernel
theorem d_Code_bitsFor_6 : decode prog_4_method_13_code 6 = .ok (.getfield 64, 3) := by decide +kernel
theorem d_Code_bitsFor_9 : decode prog_4_method_13_code 9 = .ok (.if_icmp .ge 21, 3) := by decide +kernel
theorem d_Code_bitsFor_12 : decode prog_4_method_13_code 12 = .ok (.iload_n 2, 1) := by decide +kernel
theorem d_Code_bitsFor_13 : decode prog_4_method_13_code 13 = .ok (.aload_n 0, 1) := by decide +kernel
theorem d_Code_bitsFor_14 : decode prog_4_method_13_code 14 = .ok (.aload_n 1, 1) := by decide +kernel
theorem d_Code_bitsFor_15 : decode prog_4_method_13_code 15 = .ok (.iload_n 3, 1) := by decide +kernel
theorem d_Code_bitsFor_16 : decode prog_4_method_13_code 16 = .ok (.invokevirtual 69, 3) := by decide +kernel
theorem d_Code_bitsFor_19 : decode prog_4_method_13_code 19 = .ok (.invokevirtual 73, 3) := by decide +kernel
theorem d_Code_bitsFor_22 : decode prog_4_method_13_code 22 = .ok (.iadd, 1) := by decide +kernel
theorem d_Code_bitsFor_23 : decode prog_4_method_13_code 23 = .ok (.istore_n 2, 1) := by decide +kernel
theorem d_Code_bitsFor_24 : decode prog_4_method_13_code 24 = .ok (.iinc 3 1, 3) := by decide +kernel
theorem d_Code_bitsFor_27 : decode prog_4_method_13_code 27 = .ok (.goto (-23), 3) := by decide +kernel
theorem d_Code_bitsFor_30 : decode prog_4_method_13_code 30 = .ok (.iload_n 2, 1) := by decide +kernel
theorem d_Code_bitsFor_31 : decode prog_4_method_13_code 31 = .ok (.ireturn, 1) := by decide +kernel
set_option maxHeartbeats 4000000 in
set_option maxRecDepth 20000 in
theorem c_Code_bitsFor {P : xP} {F : xF} {z : Nat} {c : Nat} {w : Nat → Nat} {ln : Nat → Nat} {vl : Nat → Nat} {od : Nat → Nat} {js : Nat} {t : Nat} {cap : Nat} {n : Nat} {s : Nat → Nat} (hc : xCd F (c) (w) (ln) (vl) (od) (js)) (ht : xTx F (t) (cap) (n) (s))  : xM P xy_Code_bitsFor [.ref c, .ref t] F z 0 0 (fun r9 F9 z9 => r9 = some (.int (nI (bitsN ln s n))) ∧ F9 = F ∧ z9 = z) := by
  refine xM_i .int rfl (Nat.le_of_ble_eq_true rfl) (L0 := [some (.ref c), some (.ref t), none, none]) rfl rfl fun Θ hC hret => ?_
  have hlt := ht.2.1
  have hbt := ht.2.2.1
  have hbd := hc.2.2.2.2.2.2.2.1
  refine x_iconst hC d_Code_bitsFor_0 (v := nI 0) (by decide) ?_
  refine x_istore_n hC d_Code_bitsFor_1 rfl (Nat.le_of_ble_eq_true rfl) (L1 := [some (.ref c), some (.ref t), some (.int (nI 0)), none]) rfl ?_
  refine x_iconst hC d_Code_bitsFor_2 (v := nI 0) (by decide) ?_
  refine x_istore_n hC d_Code_bitsFor_3 rfl (Nat.le_of_ble_eq_true rfl) (L1 := [some (.ref c), some (.ref t), some (.int (nI 0)), some (.int (nI 0))]) rfl ?_
  have loop_4 : ∀ (m9 : Nat) (i : Nat) (q1 : Nat), (xCd F (c) (w) (ln) (vl) (od) (js)) → (xTx F (t) (cap) (n) (s)) → (i ≤ n) → (q1 = bitsN ln s i) → (n - i < m9) → xX P Θ 4 [some (.ref c), some (.ref t), some (.int (nI (q1))), some (.int (nI (i)))] [] F (z) 0 0 := by
    intro m9
    induction m9 with
    | zero => intros; omega
    | succ m9 ih_4 =>
      intro  i q1 hc ht hi kq hm_4
      have hq1 : q1 ≤ 7 * i := by rw [kq]; exact bitsN_le (fun j hj => (hbd j hj).2.1) s i
      refine x_iload_n hC d_Code_bitsFor_4 rfl rfl ?_
      refine x_aload_n hC d_Code_bitsFor_5 rfl rfl ?_
      refine x_getf hC kf_Code_64 ht.1 rfl d_Code_bitsFor_6 ?_
      refine x_icmpN_ge hC d_Code_bitsFor_9 (tgt := 30) (by decide) (by omega) (by omega) (fun c_9 => ?_) (fun c_9 => ?_)
      · skip
        refine x_iload_n hC d_Code_bitsFor_30 rfl rfl ?_
        exact hret _ _ _ _ _ _ _ d_Code_bitsFor_31 (by decide) (by decide) rfl (⟨by rw [kq, show i = n by omega], rfl, rfl⟩)
      · skip
        refine x_iload_n hC d_Code_bitsFor_12 rfl rfl ?_
        refine x_aload_n hC d_Code_bitsFor_13 rfl rfl ?_
        refine x_aload_n hC d_Code_bitsFor_14 rfl rfl ?_
        refine x_iload_n hC d_Code_bitsFor_15 rfl rfl ?_
        refine x_callV hC kv_Code_69 (c_Text_at (ht := ht) (hi := by omega)) ht.1 rfl rfl (by decide) rfl rfl rfl (Nat.le_of_ble_eq_true rfl) (by decide) d_Code_bitsFor_16 (fun r9 F9 z9 hp9 => ?_)
        obtain ⟨rfl, h9b, h9c⟩ := hp9
        rw [h9b, h9c]
        clear h9b h9c F9 z9
        refine x_callV hC kv_Code_73 (c_Code_lengthFor (hc := hc) (hs := by rw [if_pos (by omega)]; have := hbt i (by omega); omega)) hc.1 rfl rfl (by decide) rfl rfl rfl (Nat.le_of_ble_eq_true rfl) (by decide) d_Code_bitsFor_19 (fun r9 F9 z9 hp9 => ?_)
        obtain ⟨rfl, h9b, h9c⟩ := hp9
        rw [h9b, h9c]
        clear h9b h9c F9 z9
        have hb9 : lenF ln (if i < n then s i else 0) ≤ 7 := lenF_le (fun j hj => (hbd j hj).2.1) _
        refine x_iadd hC d_Code_bitsFor_22 (v := (nI ((q1) + (lenF ln (if i < n then s i else 0))))) (x_addN (by omega)) ?_
        refine x_istore_n hC d_Code_bitsFor_23 rfl (Nat.le_of_ble_eq_true rfl) (L1 := [some (.ref c), some (.ref t), some (.int (nI ((q1) + (lenF ln (if i < n then s i else 0))))), some (.int (nI (i)))]) rfl ?_
        refine x_iinc hC d_Code_bitsFor_24 rfl (v := (nI (i + 1))) (x_incN 1) (Nat.le_of_ble_eq_true rfl) (L1 := [some (.ref c), some (.ref t), some (.int (nI ((q1) + (lenF ln (if i < n then s i else 0))))), some (.int (nI (i + 1)))]) rfl ?_
        refine x_goto hC d_Code_bitsFor_27 (tgt := 4) (by decide) ?_
        exact ih_4  (i + 1) ((q1) + (lenF ln (if i < n then s i else 0))) hc ht (by omega) (by rw [kq, if_pos (by omega)]; rfl) (by omega)
  exact loop_4 (n - 0 + 1)  (0) (0) hc ht (by omega) (rfl) (by omega)

theorem d_Code_symbolFor_0 : decode prog_4_method_14_code 0 = .ok (.iconst 0, 1) := by decide +kernel
theorem d_Code_symbolFor_1 : decode prog_4_method_14_code 1 = .ok (.istore_n 3, 1) := by decide +kernel
theorem d_Code_symbolFor_2 : decode prog_4_method_14_code 2 = .ok (.iload_n 3, 1) := by decide +kernel
theorem d_Code_symbolFor_3 : decode prog_4_method_14_code 3 = .ok (.bipush 8, 2) := by decide +kernel
theorem d_Code_symbolFor_5 : decode prog_4_method_14_code 5 = .ok (.if_icmp .ge 35, 3) := by decide +kernel
theorem d_Code_symbolFor_8 : decode prog_4_method_14_code 8 = .ok (.aload_n 0, 1) := by decide +kernel
theorem d_Code_symbolFor_9 : decode prog_4_method_14_code 9 = .ok (.getfield 15, 3) := by decide +kernel
theorem d_Code_symbolFor_12 : decode prog_4_method_14_code 12 = .ok (.iload_n 3, 1) := by decide +kernel
theorem d_Code_symbolFor_13 : decode prog_4_method_14_code 13 = .ok (.iaload, 1) := by decide +kernel
theorem d_Code_symbolFor_14 : decode prog_4_method_14_code 14 = .ok (.iload_n 2, 1) := by decide +kernel
theorem d_Code_symbolFor_15 : decode prog_4_method_14_code 15 = .ok (.if_icmp .ne 19, 3) := by decide +kernel
theorem d_Code_symbolFor_18 : decode prog_4_method_14_code 18 = .ok (.aload_n 0, 1) := by decide +kernel
theorem d_Code_symbolFor_19 : decode prog_4_method_14_code 19 = .ok (.getfield 18, 3) := by decide +kernel
theorem d_Code_symbolFor_22 : decode prog_4_method_14_code 22 = .ok (.iload_n 3, 1) := by decide +kernel
theorem d_Code_symbolFor_23 : decode prog_4_method_14_code 23 = .ok (.iaload, 1) := by decide +kernel
theorem d_Code_symbolFor_24 : decode prog_4_method_14_code 24 = .ok (.iload_n 1, 1) := by decide +kernel
theorem d_Code_symbolFor_25 : decode prog_4_method_14_code 25 = .ok (.if_icmp .ne 9, 3) := by decide +kernel
theorem d_Code_symbolFor_28 : decode prog_4_method_14_code 28 = .ok (.bipush 97, 2) := by decide +kernel
theorem d_Code_symbolFor_30 : decode prog_4_method_14_code 30 = .ok (.iload_n 3, 1) := by decide +kernel
theorem d_Code_symbolFor_31 : decode prog_4_method_14_code 31 = .ok (.iadd, 1) := by decide +kernel
theorem d_Code_symbolFor_32 : decode prog_4_method_14_code 32 = .ok (.i2c, 1) := by decide +kernel
theorem d_Code_symbolFor_33 : decode prog_4_method_14_code 33 = .ok (.ireturn, 1) := by decide +kernel
theorem d_Code_symbolFor_34 : decode prog_4_method_14_code 34 = .ok (.iinc 3 1, 3) := by decide +kernel
theorem d_Code_symbolFor_37 : decode prog_4_method_14_code 37 = .ok (.goto (-35), 3) := by decide +kernel
theorem d_Code_symbolFor_40 : decode prog_4_method_14_code 40 = .ok (.iconst 0, 1) := by decide +kernel
theorem d_Code_symbolFor_41 : decode prog_4_method_14_code 41 = .ok (.ireturn, 1) := by decide +kernel
set_option maxHeartbeats 4000000 in
set_option maxRecDepth 20000 in
theorem c_Code_symbolFor {P : xP} {F : xF} {z : Nat} {c : Nat} {w : Nat → Nat} {ln : Nat → Nat} {vl : Nat → Nat} {od : Nat → Nat} {js : Nat} {v : Nat} {l : Nat} (hc : xCd F (c) (w) (ln) (vl) (od) (js)) (hv : v < 2 ^ 31) (hl : l < 2 ^ 31) : xM P xy_Code_symbolFor [.ref c, .int (nI (v)), .int (nI (l))] F z 0 0 (fun r9 F9 z9 => r9 = some (.int (nI (if symF ln vl v l 8 < 8 then 97 + symF ln vl v l 8 else 0))) ∧ F9 = F ∧ z9 = z) := by
  refine xM_i .char rfl (Nat.le_of_ble_eq_true rfl) (L0 := [some (.ref c), some (.int (nI (v))), some (.int (nI (l))), none]) rfl rfl fun Θ hC hret => ?_
  obtain ⟨h0, ⟨g1, h1, k1⟩, ⟨g2, h2, k2⟩, ⟨g3, h3, k3⟩, ⟨g4, h4, k4⟩, ⟨g5x, g5, h5, k5⟩, ⟨g6x, g6, h6, k6⟩, hbd, hjs⟩ := id hc
  refine x_iconst hC d_Code_symbolFor_0 (v := nI 0) (by decide) ?_
  refine x_istore_n hC d_Code_symbolFor_1 rfl (Nat.le_of_ble_eq_true rfl) (L1 := [some (.ref c), some (.int (nI (v))), some (.int (nI (l))), some (.int (nI 0))]) rfl ?_
  have loop_2 : ∀ (m9 : Nat) (i : Nat), (F (c) = some (.inl (1, [.ref (c + 1), .ref (c + 2), .ref (c + 3), .ref (c + 4), .ref (c + 5), .ref (c + 6), .int (nI (js))]))) → (F (c + 1) = some (.inr (0, 8, fun b9 => .int (nI (g1 b9))))) → (F (c + 2) = some (.inr (0, 8, fun b9 => .int (nI (g2 b9))))) → (F (c + 3) = some (.inr (0, 8, fun b9 => .int (nI (g3 b9))))) → (F (c + 4) = some (.inr (0, 8, fun b9 => .int (nI (g4 b9))))) → (F (c + 5) = some (.inr (0, 8, fun b9 => .int (nI (g5 b9))))) → (F (c + 6) = some (.inr (0, 8, fun b9 => .int (nI (g6 b9))))) → (i ≤ 8) → (∀ j, j < i → ¬ (ln j = l ∧ vl j = v)) → (8 - i < m9) → xX P Θ 2 [some (.ref c), some (.int (nI (v))), some (.int (nI (l))), some (.int (nI (i)))] [] F (z) 0 0 := by
    intro m9
    induction m9 with
    | zero => intros; omega
    | succ m9 ih_2 =>
      intro  i h0 h1 h2 h3 h4 h5 h6 hi kq hm_2
      refine x_iload_n hC d_Code_symbolFor_2 rfl rfl ?_
      refine x_bipush hC d_Code_symbolFor_3 (v := nI 8) (by decide) ?_
      refine x_icmpN_ge hC d_Code_symbolFor_5 (tgt := 40) (by decide) (by omega) (by omega) (fun c_5 => ?_) (fun c_5 => ?_)
      · skip
        refine x_iconst hC d_Code_symbolFor_40 (v := nI 0) (by decide) ?_
        exact hret _ _ _ _ _ _ _ d_Code_symbolFor_41 (by decide) (by decide) rfl (⟨congrArg (fun q => some (Value.int (nI q))) (by rw [symF_none (fun j hj => kq j (by omega)) 8 (by omega)]; rfl), rfl, rfl⟩)
      · skip
        have hb9 := hbd i (by omega)
        have e2 := k2 i (by omega)
        have e3 := k3 i (by omega)
        refine x_aload_n hC d_Code_symbolFor_8 rfl rfl ?_
        refine x_getf hC kf_Code_15 h0 rfl d_Code_symbolFor_9 ?_
        refine x_iload_n hC d_Code_symbolFor_12 rfl rfl ?_
        refine x_iald hC h2 (j := i) ⟨rfl, by omega, by omega⟩ (x := nI (g2 (i))) rfl d_Code_symbolFor_13 ?_
        refine x_iload_n hC d_Code_symbolFor_14 rfl rfl ?_
        refine x_icmpN_ne hC d_Code_symbolFor_15 (tgt := 34) (by decide) (by omega) (by omega) (fun c_15 => ?_) (fun c_15 => ?_)
        · skip
          refine x_iinc hC d_Code_symbolFor_34 rfl (v := (nI (i + 1))) (x_incN 1) (Nat.le_of_ble_eq_true rfl) (L1 := [some (.ref c), some (.int (nI (v))), some (.int (nI (l))), some (.int (nI (i + 1)))]) rfl ?_
          refine x_goto hC d_Code_symbolFor_37 (tgt := 2) (by decide) ?_
          exact ih_2  (i + 1) h0 h1 h2 h3 h4 h5 h6 (by omega) (fun j hj => (Nat.lt_or_ge j i).elim (kq j) (fun q e => by rw [show j = i by omega] at e; first | exact c_15 (e2.trans e.1) | exact c_25 (e3.trans e.2))) (by omega)
        · skip
          refine x_aload_n hC d_Code_symbolFor_18 rfl rfl ?_
          refine x_getf hC kf_Code_18 h0 rfl d_Code_symbolFor_19 ?_
          refine x_iload_n hC d_Code_symbolFor_22 rfl rfl ?_
          refine x_iald hC h3 (j := i) ⟨rfl, by omega, by omega⟩ (x := nI (g3 (i))) rfl d_Code_symbolFor_23 ?_
          refine x_iload_n hC d_Code_symbolFor_24 rfl rfl ?_
          refine x_icmpN_ne hC d_Code_symbolFor_25 (tgt := 34) (by decide) (by omega) (by omega) (fun c_25 => ?_) (fun c_25 => ?_)
          · skip
            refine x_iinc hC d_Code_symbolFor_34 rfl (v := (nI (i + 1))) (x_incN 1) (Nat.le_of_ble_eq_true rfl) (L1 := [some (.ref c), some (.int (nI (v))), some (.int (nI (l))), some (.int (nI (i + 1)))]) rfl ?_
            refine x_goto hC d_Code_symbolFor_37 (tgt := 2) (by decide) ?_
            exact ih_2  (i + 1) h0 h1 h2 h3 h4 h5 h6 (by omega) (fun j hj => (Nat.lt_or_ge j i).elim (kq j) (fun q e => by rw [show j = i by omega] at e; first | exact c_15 (e2.trans e.1) | exact c_25 (e3.trans e.2))) (by omega)
          · skip
            refine x_bipush hC d_Code_symbolFor_28 (v := nI 97) (by decide) ?_
            refine x_iload_n hC d_Code_symbolFor_30 rfl rfl ?_
            refine x_iadd hC d_Code_symbolFor_31 (v := (nI (97 + i))) (x_addN (by omega)) ?_
            refine x_i2c hC d_Code_symbolFor_32 (v := (nI (97 + i))) (x_i2cN (by omega)) ?_
            exact hret _ _ _ _ _ _ _ d_Code_symbolFor_33 (by decide) (by decide) (x_char _ (by omega)) (⟨congrArg (fun q => some (Value.int (nI q))) (by rw [symF_first (i := i) (by omega) ⟨e2.symm.trans c_15, e3.symm.trans c_25⟩ kq, if_pos (by omega)]), rfl, rfl⟩)
  exact loop_2 (8 - 0 + 1)  (0) h0 h1 h2 h3 h4 h5 h6 (by omega) (fun _ hj => absurd hj (by omega)) (by omega)

theorem d_Code_lowestGroup_0 : decode prog_4_method_5_code 0 = .ok (.iconst (-1), 1) := by decide +kernel
theorem d_Code_lowestGroup_1 : decode prog_4_method_5_code 1 = .ok (.istore_n 2, 1) := by decide +kernel
theorem d_Code_lowestGroup_2 : decode prog_4_method_5_code 2 = .ok (.iconst 0, 1) := by decide +kernel
theorem d_Code_lowestGroup_3 : decode prog_4_method_5_code 3 = .ok (.istore_n 3, 1) := by decide +kernel
theorem d_Code_lowestGroup_4 : decode prog_4_method_5_code 4 = .ok (.iload_n 3, 1) := by decide +kernel
theorem d_Code_lowestGroup_5 : decode prog_4_method_5_code 5 = .ok (.bipush 8, 2) := by decide +kernel
theorem d_Code_lowestGroup_7 : decode prog_4_method_5_code 7 = .ok (.if_icmp .ge 58, 3) := by decide +kernel
theorem d_Code_lowestGroup_10 : decode prog_4_method_5_code 10 = .ok (.aload_n 0, 1) := by decide +kernel
theorem d_Code_lowestGroup_11 : decode prog_4_method_5_code 11 = .ok (.getfield 24, 3) := by decide +kernel
theorem d_Code_lowestGroup_14 : decode prog_4_method_5_code 14 = .ok (.iload_n 3, 1) := by decide +kernel
theorem d_Code_lowestGroup_15 : decode prog_4_method_5_code 15 = .ok (.iaload, 1) := by decide +kernel
theorem d_Code_lowestGroup_16 : decode prog_4_method_5_code 16 = .ok (.iload_n 3, 1) := by decide +kernel
theorem d_Code_lowestGroup_17 : decode prog_4_method_5_code 17 = .ok (.if_icmp .ne 12, 3) := by decide +kernel
theorem d_Code_lowestGroup_20 : decode prog_4_method_5_code 20 = .ok (.iload_n 3, 1) := by decide +kernel
theorem d_Code_lowestGroup_21 : decode prog_4_method_5_code 21 = .ok (.iload_n 1, 1) := by decide +kernel
theorem d_Code_lowestGroup_22 : decode prog_4_method_5_code 22 = .ok (.if_icmp .eq 7, 3) := by decide +kernel
theorem d_Code_lowestGroup_25 : decode prog_4_method_5_code 25 = .ok (.iconst 1, 1) := by decide +kernel
theorem d_Code_lowestGroup_26 : decode prog_4_method_5_code 26 = .ok (.goto 4, 3) := by decide +kernel
theorem d_Code_lowestGroup_29 : decode prog_4_method_5_code 29 = .ok (.iconst 0, 1) := by decide +kernel
theorem d_Code_lowestGroup_30 : decode prog_4_method_5_code 30 = .ok (.istore 4, 2) := by decide +kernel
theorem d_Code_lowestGroup_32 : decode prog_4_method_5_code 32 = .ok (.iload 4, 2) := by decide +kernel
theorem d_Code_lowestGroup_34 : decode prog_4_method_5_code 34 = .ok (.ifCond .eq 25, 3) := by decide +kernel
theorem d_Code_lowestGroup_37 : decode prog_4_method_5_code 37 = .ok (.iload_n 2, 1) := by decide +kernel
theorem d_Code_lowestGroup_38 : decode prog_4_method_5_code 38 = .ok (.iconst (-1), 1) := by decide +kernel
theorem d_Code_lowestGroup_39 : decode prog_4_method_5_code 39 = .ok (.if_icmp .eq 18, 3) := by decide +kernel
theorem d_Code_lowestGroup_42 : decode prog_4_method_5_code 42 = .ok (.aload_n 0, 1) := by decide +kernel
theorem d_Code_lowestGroup_43 : decode prog_4_method_5_code 43 = .ok (.getfield 27, 3) := by decide +kernel
theorem d_Code_lowestGroup_46 : decode prog_4_method_5_code 46 = .ok (.iload_n 3, 1) := by decide +kernel
theorem d_Code_lowestGroup_47 : decode prog_4_method_5_code 47 = .ok (.iaload, 1) := by decide +kernel
theorem d_Code_lowestGroup_48 : decode prog_4_method_5_code 48 = .ok (.aload_n 0, 1) := by decide +kernel
theorem d_Code_lowestGroup_49 : decode prog_4_method_5_code 49 = .ok (.getfield 27, 3) := by decide +kernel
theorem d_Code_lowestGroup_52 : decode prog_4_method_5_code 52 = .ok (.iload_n 2, 1) := by decide +kernel
theorem d_Code_lowestGroup_53 : decode prog_4_method_5_code 53 = .ok (.iaload, 1) := by decide +kernel
theorem d_Code_lowestGroup_54 : decode prog_4_method_5_code 54 = .ok (.if_icmp .ge 5, 3) := by decide +kernel
theorem d_Code_lowestGroup_57 : decode prog_4_method_5_code 57 = .ok (.iload_n 3, 1) := by decide +kernel
theorem d_Code_lowestGroup_58 : decode prog_4_method_5_code 58 = .ok (.istore_n 2, 1) := by decide +kernel
theorem d_Code_lowestGroup_59 : decode prog_4_method_5_code 59 = .ok (.iinc 3 1, 3) := by decide +kernel
theorem d_Code_lowestGroup_62 : decode prog_4_method_5_code 62 = .ok (.goto (-58), 3) := by decide +kernel
theorem d_Code_lowestGroup_65 : decode prog_4_method_5_code 65 = .ok (.iload_n 2, 1) := by decide +kernel
theorem d_Code_lowestGroup_66 : decode prog_4_method_5_code 66 = .ok (.ireturn, 1) := by decide +kernel
set_option maxHeartbeats 4000000 in
set_option maxRecDepth 20000 in
theorem c_Code_lowestGroup {P : xP} {F : xF} {z : Nat} {c : Nat} {js : Nat} {gr : Nat → Nat} {gw : Nat → Nat} {b : Nat} (h0 : F (c) = some (.inl (1, [.ref (c + 1), .ref (c + 2), .ref (c + 3), .ref (c + 4), .ref (c + 5), .ref (c + 6), .int (nI (js))]))) (h5 : F (c + 5) = some (.inr (0, 8, fun b9 => .int (nI (gr b9))))) (h6 : F (c + 6) = some (.inr (0, 8, fun b9 => .int (nI (gw b9))))) (hb : b ≤ 8) (hgr : ∀ j, j < 8 → gr j < 8) (hgw : ∀ j, j < 8 → gw j < 100000) : xM P xy_Code_lowestGroup [.ref c, .int (xo b)] F z 0 0 (fun r9 F9 z9 => r9 = some (.int (xo (lowN gr gw b 8))) ∧ F9 = F ∧ z9 = z) := by
  refine xM_i .int rfl (Nat.le_of_ble_eq_true rfl) (L0 := [some (.ref c), some (.int (xo b)), none, none, none]) rfl rfl fun Θ hC hret => ?_
  refine x_iconst hC d_Code_lowestGroup_0 (v := -1) (by decide) ?_
  refine x_top (v := (xo 8)) xo_8.symm ?_
  refine x_istore_n hC d_Code_lowestGroup_1 rfl (Nat.le_of_ble_eq_true rfl) (L1 := [some (.ref c), some (.int (xo b)), some (.int (xo 8)), none, none]) rfl ?_
  refine x_iconst hC d_Code_lowestGroup_2 (v := nI 0) (by decide) ?_
  refine x_istore_n hC d_Code_lowestGroup_3 rfl (Nat.le_of_ble_eq_true rfl) (L1 := [some (.ref c), some (.int (xo b)), some (.int (xo 8)), some (.int (nI 0)), none]) rfl ?_
  have loop_4 : ∀ (m9 : Nat) (k : Nat) (f : Nat), (F (c) = some (.inl (1, [.ref (c + 1), .ref (c + 2), .ref (c + 3), .ref (c + 4), .ref (c + 5), .ref (c + 6), .int (nI (js))]))) → (F (c + 5) = some (.inr (0, 8, fun b9 => .int (nI (gr b9))))) → (F (c + 6) = some (.inr (0, 8, fun b9 => .int (nI (gw b9))))) → (k ≤ 8) → (f = lowN gr gw b k) → (8 - k < m9) → xX P Θ 4 [some (.ref c), some (.int (xo b)), some (.int (xo (f))), some (.int (nI (k))), none] [] F (z) 0 0 := by
    intro m9
    induction m9 with
    | zero => intros; omega
    | succ m9 ih_4 =>
      intro  k f h0 h5 h6 hk kf hm_4
      have hf : f ≤ 8 := by rw [kf]; exact lowN_8 gr gw b hk
      refine x_iload_n hC d_Code_lowestGroup_4 rfl rfl ?_
      refine x_bipush hC d_Code_lowestGroup_5 (v := nI 8) (by decide) ?_
      refine x_icmpN_ge hC d_Code_lowestGroup_7 (tgt := 65) (by decide) (by omega) (by omega) (fun c_7 => ?_) (fun c_7 => ?_)
      · skip
        refine x_iload_n hC d_Code_lowestGroup_65 rfl rfl ?_
        exact hret _ _ _ _ _ _ _ d_Code_lowestGroup_66 (by decide) (by decide) rfl (⟨by rw [kf, show k = 8 by omega], rfl, rfl⟩)
      · skip
        refine x_aload_n hC d_Code_lowestGroup_10 rfl rfl ?_
        refine x_getf hC kf_Code_24 h0 rfl d_Code_lowestGroup_11 ?_
        have hb9 := hgr k (by omega)
        have hb8 := hgw k (by omega)
        refine x_iload_n hC d_Code_lowestGroup_14 rfl rfl ?_
        refine x_iald hC h5 (j := k) ⟨rfl, by omega, by omega⟩ (x := nI (gr (k))) rfl d_Code_lowestGroup_15 ?_
        refine x_iload_n hC d_Code_lowestGroup_16 rfl rfl ?_
        refine x_icmpN_ne hC d_Code_lowestGroup_17 (tgt := 29) (by decide) (by omega) (by omega) (fun c_17 => ?_) (fun c_17 => ?_)
        · skip
          refine x_iconst hC d_Code_lowestGroup_29 (v := nI 0) (by decide) ?_
          refine x_istore hC d_Code_lowestGroup_30 (Nat.le_of_ble_eq_true rfl) (L1 := [some (.ref c), some (.int (xo b)), some (.int (xo (f))), some (.int (nI (k))), some (.int (nI 0))]) rfl ?_
          refine x_iload hC d_Code_lowestGroup_32 rfl ?_
          refine x_ifN_eq hC d_Code_lowestGroup_34 (tgt := 59) (by decide) (by omega) (fun c_34 => ?_) (fun c_34 => ?_)
          · skip
            refine x_iinc hC d_Code_lowestGroup_59 rfl (v := (nI (k + 1))) (x_incN 1) (Nat.le_of_ble_eq_true rfl) (L1 := [some (.ref c), some (.int (xo b)), some (.int (xo (f))), some (.int (nI (k + 1))), some (.int (nI 0))]) rfl ?_
            refine x_goto hC d_Code_lowestGroup_62 (tgt := 4) (by decide) ?_
            refine x_forget (L1 := [some (.ref c), some (.int (xo b)), some (.int (xo (f))), some (.int (nI (k + 1))), none]) ⟨Or.inr rfl, ⟨Or.inr rfl, ⟨Or.inr rfl, ⟨Or.inr rfl, ⟨Or.inl rfl, trivial⟩⟩⟩⟩⟩ ?_
            exact ih_4  (k + 1) (f) h0 h5 h6 (by omega) (by first | (rw [lowN, ← kf, if_neg (fun h9 => c_17 h9.1)]; done) | (rw [lowN, ← kf, if_neg (fun h9 => h9.2.1 ((xo_eqN (by omega) hb).mp c_22))]; done) | (rw [lowN, ← kf, if_pos ⟨c_17, fun h9 => c_22 ((xo_eqN (by omega) hb).mpr h9), Or.inl ((xo_eq8 hf).mp c_39)⟩]; done) | (rw [lowN, ← kf, if_neg (fun h9 => h9.2.2.elim (fun e => c_39 ((xo_eq8 hf).mpr e)) (fun e => absurd e (by omega)))]; done) | (rw [lowN, ← kf, if_pos ⟨c_17, fun h9 => c_22 ((xo_eqN (by omega) hb).mpr h9), Or.inr c_54⟩])) (by omega)
          · skip
            exact absurd c_34 (by omega)
        · skip
          refine x_iload_n hC d_Code_lowestGroup_20 rfl rfl ?_
          refine x_iload_n hC d_Code_lowestGroup_21 rfl rfl ?_
          refine x_icmp_eq hC d_Code_lowestGroup_22 (tgt := 29) (by decide) (fun c_22 => ?_) (fun c_22 => ?_)
          · skip
            refine x_iconst hC d_Code_lowestGroup_29 (v := nI 0) (by decide) ?_
            refine x_istore hC d_Code_lowestGroup_30 (Nat.le_of_ble_eq_true rfl) (L1 := [some (.ref c), some (.int (xo b)), some (.int (xo (f))), some (.int (nI (k))), some (.int (nI 0))]) rfl ?_
            refine x_iload hC d_Code_lowestGroup_32 rfl ?_
            refine x_ifN_eq hC d_Code_lowestGroup_34 (tgt := 59) (by decide) (by omega) (fun c_34 => ?_) (fun c_34 => ?_)
            · skip
              refine x_iinc hC d_Code_lowestGroup_59 rfl (v := (nI (k + 1))) (x_incN 1) (Nat.le_of_ble_eq_true rfl) (L1 := [some (.ref c), some (.int (xo b)), some (.int (xo (f))), some (.int (nI (k + 1))), some (.int (nI 0))]) rfl ?_
              refine x_goto hC d_Code_lowestGroup_62 (tgt := 4) (by decide) ?_
              refine x_forget (L1 := [some (.ref c), some (.int (xo b)), some (.int (xo (f))), some (.int (nI (k + 1))), none]) ⟨Or.inr rfl, ⟨Or.inr rfl, ⟨Or.inr rfl, ⟨Or.inr rfl, ⟨Or.inl rfl, trivial⟩⟩⟩⟩⟩ ?_
              exact ih_4  (k + 1) (f) h0 h5 h6 (by omega) (by first | (rw [lowN, ← kf, if_neg (fun h9 => c_17 h9.1)]; done) | (rw [lowN, ← kf, if_neg (fun h9 => h9.2.1 ((xo_eqN (by omega) hb).mp c_22))]; done) | (rw [lowN, ← kf, if_pos ⟨c_17, fun h9 => c_22 ((xo_eqN (by omega) hb).mpr h9), Or.inl ((xo_eq8 hf).mp c_39)⟩]; done) | (rw [lowN, ← kf, if_neg (fun h9 => h9.2.2.elim (fun e => c_39 ((xo_eq8 hf).mpr e)) (fun e => absurd e (by omega)))]; done) | (rw [lowN, ← kf, if_pos ⟨c_17, fun h9 => c_22 ((xo_eqN (by omega) hb).mpr h9), Or.inr c_54⟩])) (by omega)
            · skip
              exact absurd c_34 (by omega)
          · skip
            refine x_iconst hC d_Code_lowestGroup_25 (v := nI 1) (by decide) ?_
            refine x_goto hC d_Code_lowestGroup_26 (tgt := 30) (by decide) ?_
            refine x_istore hC d_Code_lowestGroup_30 (Nat.le_of_ble_eq_true rfl) (L1 := [some (.ref c), some (.int (xo b)), some (.int (xo (f))), some (.int (nI (k))), some (.int (nI 1))]) rfl ?_
            refine x_iload hC d_Code_lowestGroup_32 rfl ?_
            refine x_ifN_eq hC d_Code_lowestGroup_34 (tgt := 59) (by decide) (by omega) (fun c_34 => ?_) (fun c_34 => ?_)
            · skip
              exact absurd c_34 (by omega)
            · skip
              refine x_iload_n hC d_Code_lowestGroup_37 rfl rfl ?_
              refine x_iconst hC d_Code_lowestGroup_38 (v := -1) (by decide) ?_
              refine x_icmp_eq hC d_Code_lowestGroup_39 (tgt := 57) (by decide) (fun c_39 => ?_) (fun c_39 => ?_)
              · skip
                refine x_iload_n hC d_Code_lowestGroup_57 rfl rfl ?_
                refine x_top (v := (xo (k))) (xo_of (by omega)).symm ?_
                refine x_istore_n hC d_Code_lowestGroup_58 rfl (Nat.le_of_ble_eq_true rfl) (L1 := [some (.ref c), some (.int (xo b)), some (.int (xo (k))), some (.int (nI (k))), some (.int (nI 1))]) rfl ?_
                refine x_iinc hC d_Code_lowestGroup_59 rfl (v := (nI (k + 1))) (x_incN 1) (Nat.le_of_ble_eq_true rfl) (L1 := [some (.ref c), some (.int (xo b)), some (.int (xo (k))), some (.int (nI (k + 1))), some (.int (nI 1))]) rfl ?_
                refine x_goto hC d_Code_lowestGroup_62 (tgt := 4) (by decide) ?_
                refine x_forget (L1 := [some (.ref c), some (.int (xo b)), some (.int (xo (k))), some (.int (nI (k + 1))), none]) ⟨Or.inr rfl, ⟨Or.inr rfl, ⟨Or.inr rfl, ⟨Or.inr rfl, ⟨Or.inl rfl, trivial⟩⟩⟩⟩⟩ ?_
                exact ih_4  (k + 1) (k) h0 h5 h6 (by omega) (by first | (rw [lowN, ← kf, if_neg (fun h9 => c_17 h9.1)]; done) | (rw [lowN, ← kf, if_neg (fun h9 => h9.2.1 ((xo_eqN (by omega) hb).mp c_22))]; done) | (rw [lowN, ← kf, if_pos ⟨c_17, fun h9 => c_22 ((xo_eqN (by omega) hb).mpr h9), Or.inl ((xo_eq8 hf).mp c_39)⟩]; done) | (rw [lowN, ← kf, if_neg (fun h9 => h9.2.2.elim (fun e => c_39 ((xo_eq8 hf).mpr e)) (fun e => absurd e (by omega)))]; done) | (rw [lowN, ← kf, if_pos ⟨c_17, fun h9 => c_22 ((xo_eqN (by omega) hb).mpr h9), Or.inr c_54⟩])) (by omega)
              · skip
                have hn8 : f ≠ 8 := fun e => c_39 ((xo_eq8 hf).mpr e)
                have hf8 : f < 8 := by omega
                have hb7 := hgw f hf8
                refine x_aload_n hC d_Code_lowestGroup_42 rfl rfl ?_
                refine x_getf hC kf_Code_27 h0 rfl d_Code_lowestGroup_43 ?_
                refine x_iload_n hC d_Code_lowestGroup_46 rfl rfl ?_
                refine x_iald hC h6 (j := k) ⟨rfl, by omega, by omega⟩ (x := nI (gw (k))) rfl d_Code_lowestGroup_47 ?_
                refine x_aload_n hC d_Code_lowestGroup_48 rfl rfl ?_
                refine x_getf hC kf_Code_27 h0 rfl d_Code_lowestGroup_49 ?_
                refine x_iload_n hC d_Code_lowestGroup_52 rfl rfl ?_
                refine x_iald hC h6 (j := f) ⟨xo_of hf8, hf8, by decide⟩ (x := nI (gw (f))) rfl d_Code_lowestGroup_53 ?_
                refine x_icmpN_ge hC d_Code_lowestGroup_54 (tgt := 59) (by decide) (by omega) (by omega) (fun c_54 => ?_) (fun c_54 => ?_)
                · skip
                  refine x_iinc hC d_Code_lowestGroup_59 rfl (v := (nI (k + 1))) (x_incN 1) (Nat.le_of_ble_eq_true rfl) (L1 := [some (.ref c), some (.int (xo b)), some (.int (xo (f))), some (.int (nI (k + 1))), some (.int (nI 1))]) rfl ?_
                  refine x_goto hC d_Code_lowestGroup_62 (tgt := 4) (by decide) ?_
                  refine x_forget (L1 := [some (.ref c), some (.int (xo b)), some (.int (xo (f))), some (.int (nI (k + 1))), none]) ⟨Or.inr rfl, ⟨Or.inr rfl, ⟨Or.inr rfl, ⟨Or.inr rfl, ⟨Or.inl rfl, trivial⟩⟩⟩⟩⟩ ?_
                  exact ih_4  (k + 1) (f) h0 h5 h6 (by omega) (by first | (rw [lowN, ← kf, if_neg (fun h9 => c_17 h9.1)]; done) | (rw [lowN, ← kf, if_neg (fun h9 => h9.2.1 ((xo_eqN (by omega) hb).mp c_22))]; done) | (rw [lowN, ← kf, if_pos ⟨c_17, fun h9 => c_22 ((xo_eqN (by omega) hb).mpr h9), Or.inl ((xo_eq8 hf).mp c_39)⟩]; done) | (rw [lowN, ← kf, if_neg (fun h9 => h9.2.2.elim (fun e => c_39 ((xo_eq8 hf).mpr e)) (fun e => absurd e (by omega)))]; done) | (rw [lowN, ← kf, if_pos ⟨c_17, fun h9 => c_22 ((xo_eqN (by omega) hb).mpr h9), Or.inr c_54⟩])) (by omega)
                · skip
                  refine x_iload_n hC d_Code_lowestGroup_57 rfl rfl ?_
                  refine x_top (v := (xo (k))) (xo_of (by omega)).symm ?_
                  refine x_istore_n hC d_Code_lowestGroup_58 rfl (Nat.le_of_ble_eq_true rfl) (L1 := [some (.ref c), some (.int (xo b)), some (.int (xo (k))), some (.int (nI (k))), some (.int (nI 1))]) rfl ?_
                  refine x_iinc hC d_Code_lowestGroup_59 rfl (v := (nI (k + 1))) (x_incN 1) (Nat.le_of_ble_eq_true rfl) (L1 := [some (.ref c), some (.int (xo b)), some (.int (xo (k))), some (.int (nI (k + 1))), some (.int (nI 1))]) rfl ?_
                  refine x_goto hC d_Code_lowestGroup_62 (tgt := 4) (by decide) ?_
                  refine x_forget (L1 := [some (.ref c), some (.int (xo b)), some (.int (xo (k))), some (.int (nI (k + 1))), none]) ⟨Or.inr rfl, ⟨Or.inr rfl, ⟨Or.inr rfl, ⟨Or.inr rfl, ⟨Or.inl rfl, trivial⟩⟩⟩⟩⟩ ?_
                  exact ih_4  (k + 1) (k) h0 h5 h6 (by omega) (by first | (rw [lowN, ← kf, if_neg (fun h9 => c_17 h9.1)]; done) | (rw [lowN, ← kf, if_neg (fun h9 => h9.2.1 ((xo_eqN (by omega) hb).mp c_22))]; done) | (rw [lowN, ← kf, if_pos ⟨c_17, fun h9 => c_22 ((xo_eqN (by omega) hb).mpr h9), Or.inl ((xo_eq8 hf).mp c_39)⟩]; done) | (rw [lowN, ← kf, if_neg (fun h9 => h9.2.2.elim (fun e => c_39 ((xo_eq8 hf).mpr e)) (fun e => absurd e (by omega)))]; done) | (rw [lowN, ← kf, if_pos ⟨c_17, fun h9 => c_22 ((xo_eqN (by omega) hb).mpr h9), Or.inr c_54⟩])) (by omega)
  exact loop_4 (8 - 0 + 1)  (0) (8) h0 h5 h6 (by omega) (rfl) (by omega)

theorem d_Code_join_0 : decode prog_4_method_6_code 0 = .ok (.iload_n 1, 1) := by decide +kernel
theorem d_Code_join_1 : decode prog_4_method_6_code 1 = .ok (.iconst (-1), 1) := by decide +kernel
theorem d_Code_join_2 : decode prog_4_method_6_code 2 = .ok (.if_icmp .eq 8, 3) := by decide +kernel
theorem d_Code_join_5 : decode prog_4_method_6_code 5 = .ok (.iload_n 2, 1) := by decide +kernel
theorem d_Code_join_6 : decode prog_4_method_6_code 6 = .ok (.iconst (-1), 1) := by decide +kernel
theorem d_Code_join_7 : decode prog_4_method_6_code 7 = .ok (.if_icmp .ne 4, 3) := by decide +kernel
theorem d_Code_join_10 : decode prog_4_method_6_code 10 = .ok (.return_, 1) := by decide +kernel
theorem d_Code_join_11 : decode prog_4_method_6_code 11 = .ok (.iload_n 1, 1) := by decide +kernel
theorem d_Code_join_12 : decode prog_4_method_6_code 12 = .ok (.iload_n 2, 1) := by decide +kernel
theorem d_Code_join_13 : decode prog_4_method_6_code 13 = .ok (.invokestatic 51, 3) := by decide +kernel
theorem d_Code_join_16 : decode prog_4_method_6_code 16 = .ok (.istore_n 3, 1) := by decide +kernel
theorem d_Code_join_17 : decode prog_4_method_6_code 17 = .ok (.aload_n 0, 1) := by decide +kernel
theorem d_Code_join_18 : decode prog_4_method_6_code 18 = .ok (.getfield 27, 3) := by decide +kernel
theorem d_Code_join_21 : decode prog_4_method_6_code 21 = .ok (.iload_n 3, 1) := by decide +kernel
theorem d_Code_join_22 : decode prog_4_method_6_code 22 = .ok (.aload_n 0, 1) := by decide +kernel
theorem d_Code_join_23 : decode prog_4_method_6_code 23 = .ok (.getfield 27, 3) := by decide +kernel
theorem d_Code_join_26 : decode prog_4_method_6_code 26 = .ok (.iload_n 1, 1) := by decide +kernel
theorem d_Code_join_27 : decode prog_4_method_6_code 27 = .ok (.iaload, 1) := by decide +kernel
theorem d_Code_join_28 : decode prog_4_method_6_code 28 = .ok (.aload_n 0, 1) := by decide +kernel
theorem d_Code_join_29 : decode prog_4_method_6_code 29 = .ok (.getfield 27, 3) := by decide +kernel
theorem d_Code_join_32 : decode prog_4_method_6_code 32 = .ok (.iload_n 2, 1) := by decide +kernel
theorem d_Code_join_33 : decode prog_4_method_6_code 33 = .ok (.iaload, 1) := by decide +kernel
theorem d_Code_join_34 : decode prog_4_method_6_code 34 = .ok (.iadd, 1) := by decide +kernel
theorem d_Code_join_35 : decode prog_4_method_6_code 35 = .ok (.iastore, 1) := by decide +kernel
theorem d_Code_join_36 : decode prog_4_method_6_code 36 = .ok (.aload_n 0, 1) := by decide +kernel
theorem d_Code_join_37 : decode prog_4_method_6_code 37 = .ok (.dup, 1) := by decide +kernel
theorem d_Code_join_38 : decode prog_4_method_6_code 38 = .ok (.getfield 33, 3) := by decide +kernel
theorem d_Code_join_41 : decode prog_4_method_6_code 41 = .ok (.aload_n 0, 1) := by decide +kernel
theorem d_Code_join_42 : decode prog_4_method_6_code 42 = .ok (.getfield 27, 3) := by decide +kernel
theorem d_Code_join_45 : decode prog_4_method_6_code 45 = .ok (.iload_n 3, 1) := by decide +kernel
theorem d_Code_join_46 : decode prog_4_method_6_code 46 = .ok (.iaload, 1) := by decide +kernel
theorem d_Code_join_47 : decode prog_4_method_6_code 47 = .ok (.iadd, 1) := by decide +kernel
theorem d_Code_join_48 : decode prog_4_method_6_code 48 = .ok (.putfield 33, 3) := by decide +kernel
theorem d_Code_join_51 : decode prog_4_method_6_code 51 = .ok (.iconst 0, 1) := by decide +kernel
theorem d_Code_join_52 : decode prog_4_method_6_code 52 = .ok (.istore 4, 2) := by decide +kernel
theorem d_Code_join_54 : decode prog_4_method_6_code 54 = .ok (.iload 4, 2) := by decide +kernel
theorem d_Code_join_56 : decode prog_4_method_6_code 56 = .ok (.bipush 8, 2) := by decide +kernel
theorem d_Code_join_58 : decode prog_4_method_6_code 58 = .ok (.if_icmp .ge 50, 3) := by decide +kernel
theorem d_Code_join_61 : decode prog_4_method_6_code 61 = .ok (.aload_n 0, 1) := by decide +kernel
theorem d_Code_join_62 : decode prog_4_method_6_code 62 = .ok (.getfield 24, 3) := by decide +kernel
theorem d_Code_join_65 : decode prog_4_method_6_code 65 = .ok (.iload 4, 2) := by decide +kernel
theorem d_Code_join_67 : decode prog_4_method_6_code 67 = .ok (.iaload, 1) := by decide +kernel
theorem d_Code_join_68 : decode prog_4_method_6_code 68 = .ok (.iload_n 1, 1) := by decide +kernel
theorem d_Code_join_69 : decode prog_4_method_6_code 69 = .ok (.if_icmp .eq 14, 3) := by decide +kernel
theorem d_Code_join_72 : decode prog_4_method_6_code 72 = .ok (.aload_n 0, 1) := by decide +kernel
theorem d_Code_join_73 : decode prog_4_method_6_code 73 = .ok (.getfield 24, 3) := by decide +kernel
theorem d_Code_join_76 : decode prog_4_method_6_code 76 = .ok (.iload 4, 2) := by decide +kernel
theorem d_Code_join_78 : decode prog_4_method_6_code 78 = .ok (.iaload, 1) := by decide +kernel
theorem d_Code_join_79 : decode prog_4_method_6_code 79 = .ok (.iload_n 2, 1) := by decide +kernel
theorem d_Code_join_80 : decode prog_4_method_6_code 80 = .ok (.if_icmp .ne 22, 3) := by decide +kernel
theorem d_Code_join_83 : decode prog_4_method_6_code 83 = .ok (.aload_n 0, 1) := by decide +kernel
theorem d_Code_join_84 : decode prog_4_method_6_code 84 = .ok (.getfield 24, 3) := by decide +kernel
theorem d_Code_join_87 : decode prog_4_method_6_code 87 = .ok (.iload 4, 2) := by decide +kernel
theorem d_Code_join_89 : decode prog_4_method_6_code 89 = .ok (.iload_n 3, 1) := by decide +kernel
theorem d_Code_join_90 : decode prog_4_method_6_code 90 = .ok (.iastore, 1) := by decide +kernel
theorem d_Code_join_91 : decode prog_4_method_6_code 91 = .ok (.aload_n 0, 1) := by decide +kernel
theorem d_Code_join_92 : decode prog_4_method_6_code 92 = .ok (.getfield 15, 3) := by decide +kernel
theorem d_Code_join_95 : decode prog_4_method_6_code 95 = .ok (.iload 4, 2) := by decide +kernel
theorem d_Code_join_97 : decode prog_4_method_6_code 97 = .ok (.dup2, 1) := by decide +kernel
theorem d_Code_join_98 : decode prog_4_method_6_code 98 = .ok (.iaload, 1) := by decide +kernel
theorem d_Code_join_99 : decode prog_4_method_6_code 99 = .ok (.iconst 1, 1) := by decide +kernel
theorem d_Code_join_100 : decode prog_4_method_6_code 100 = .ok (.iadd, 1) := by decide +kernel
theorem d_Code_join_101 : decode prog_4_method_6_code 101 = .ok (.iastore, 1) := by decide +kernel
theorem d_Code_join_102 : decode prog_4_method_6_code 102 = .ok (.iinc 4 1, 3) := by decide +kernel
theorem d_Code_join_105 : decode prog_4_method_6_code 105 = .ok (.goto (-51), 3) := by decide +kernel
theorem d_Code_join_108 : decode prog_4_method_6_code 108 = .ok (.return_, 1) := by decide +kernel
set_option maxHeartbeats 4000000 in
set_option maxRecDepth 20000 in
theorem c_Code_join {P : xP} {F : xF} {z : Nat} {c : Nat} {js : Nat} {ln : Nat → Nat} {gr : Nat → Nat} {gw : Nat → Nat} {a : Nat} {b : Nat} (h0 : F (c) = some (.inl (1, [.ref (c + 1), .ref (c + 2), .ref (c + 3), .ref (c + 4), .ref (c + 5), .ref (c + 6), .int (nI (js))]))) (h2 : F (c + 2) = some (.inr (0, 8, fun b9 => .int (nI (ln b9))))) (h5 : F (c + 5) = some (.inr (0, 8, fun b9 => .int (nI (gr b9))))) (h6 : F (c + 6) = some (.inr (0, 8, fun b9 => .int (nI (gw b9))))) (ha : a < 8) (hb : b < 8) (hgr : ∀ j, j < 8 → gr j < 8) (hln : ∀ j, j < 8 → ln j < 100) (hgw : ∀ j, j < 8 → gw j < 100000) (hjs : js < 1000000) : xM P xy_Code_join [.ref c, .int (nI (a)), .int (nI (b))] F z 0 0 (fun r9 F9 z9 => ∃ ln1 : Nat → Nat, ∃ gr1 : Nat → Nat, r9 = none ∧ z9 = z ∧ F9 (c) = some (.inl (1, [.ref (c + 1), .ref (c + 2), .ref (c + 3), .ref (c + 4), .ref (c + 5), .ref (c + 6), .int (nI (js + (gw a + gw b)))])) ∧ F9 (c + 2) = some (.inr (0, 8, fun b9 => .int (nI (ln1 b9)))) ∧ F9 (c + 5) = some (.inr (0, 8, fun b9 => .int (nI (gr1 b9)))) ∧ F9 (c + 6) = some (.inr (0, 8, fun b9 => .int (nI ((updN gw (min a b) (gw a + gw b)) b9)))) ∧ (∀ j, j < 8 → gr1 j = (if gr j = a ∨ gr j = b then min a b else gr j) ∧ ln1 j = (if gr j = a ∨ gr j = b then ln j + 1 else ln j)) ∧ (∀ a9 : Nat, (a9 < c ∨ c + 7 ≤ a9) → F9 a9 = F a9)) := by
  refine xM_v rfl (Nat.le_of_ble_eq_true rfl) (L0 := [some (.ref c), some (.int (nI (a))), some (.int (nI (b))), none, none]) rfl rfl fun Θ hC hin hret => ?_
  have hag : ∀ a9 : Nat, (a9 < c ∨ c + 7 ≤ a9) → F a9 = F a9 := fun a9 _ => rfl
  have hga := hgw a ha
  have hgb := hgw b hb
  refine x_iload_n hC d_Code_join_0 rfl rfl ?_
  refine x_iconst hC d_Code_join_1 (v := -1) (by decide) ?_
  refine x_icmp_eq hC d_Code_join_2 (tgt := 10) (by decide) (fun c_2 => ?_) (fun c_2 => ?_)
  · skip
    exact absurd c_2 (by rw [show (-1 : Int32) = xo 8 from rfl, xo_eqN (by omega) (by omega)]; omega)
  · skip
    refine x_iload_n hC d_Code_join_5 rfl rfl ?_
    refine x_iconst hC d_Code_join_6 (v := -1) (by decide) ?_
    refine x_icmp_ne hC d_Code_join_7 (tgt := 11) (by decide) (fun c_7 => ?_) (fun c_7 => ?_)
    · skip
      refine x_iload_n hC d_Code_join_11 rfl rfl ?_
      refine x_iload_n hC d_Code_join_12 rfl rfl ?_
      refine x_mminN hC km_Code_51 (by omega) (by omega) rfl (by decide) (Nat.le_of_ble_eq_true rfl) (by decide) d_Code_join_13 (v := min a b) (by rw [Nat.min_def]; split <;> split <;> omega) ?_
      refine x_istore_n hC d_Code_join_16 rfl (Nat.le_of_ble_eq_true rfl) (L1 := [some (.ref c), some (.int (nI (a))), some (.int (nI (b))), some (.int (nI (min a b))), none]) rfl ?_
      have hm8 : min a b < 8 := by omega
      refine x_aload_n hC d_Code_join_17 rfl rfl ?_
      refine x_getf hC kf_Code_27 h0 rfl d_Code_join_18 ?_
      refine x_iload_n hC d_Code_join_21 rfl rfl ?_
      refine x_aload_n hC d_Code_join_22 rfl rfl ?_
      refine x_getf hC kf_Code_27 h0 rfl d_Code_join_23 ?_
      refine x_iload_n hC d_Code_join_26 rfl rfl ?_
      refine x_iald hC h6 (j := a) ⟨rfl, by omega, by omega⟩ (x := nI (gw (a))) rfl d_Code_join_27 ?_
      refine x_aload_n hC d_Code_join_28 rfl rfl ?_
      refine x_getf hC kf_Code_27 h0 rfl d_Code_join_29 ?_
      refine x_iload_n hC d_Code_join_32 rfl rfl ?_
      refine x_iald hC h6 (j := b) ⟨rfl, by omega, by omega⟩ (x := nI (gw (b))) rfl d_Code_join_33 ?_
      refine x_iadd hC d_Code_join_34 (v := (nI ((gw (a)) + (gw (b))))) (x_addN (by omega)) ?_
      refine x_iast hC h6 (j := min a b) ⟨rfl, by omega, by omega⟩ d_Code_join_35 (g1 := fun b9 => nI (updN gw (min a b) ((gw (a)) + (gw (b))) b9)) (x_updN _ _ _) ?_
      generalize egz : updN gw (min a b) ((gw (a)) + (gw (b))) = gz
      generalize e2 : xup F (c + 6) (.inr (0, 8, fun b9 => .int (nI (gz b9)))) = F2
      have h0 : F2 (c) = some (.inl (1, [.ref (c + 1), .ref (c + 2), .ref (c + 3), .ref (c + 4), .ref (c + 5), .ref (c + 6), .int (nI (js))])) := by rw [← e2]; exact (xup_ne (by omega)).trans h0
      have h2 : F2 (c + 2) = some (.inr (0, 8, fun b9 => .int (nI (ln b9)))) := by rw [← e2]; exact (xup_ne (by omega)).trans h2
      have h5 : F2 (c + 5) = some (.inr (0, 8, fun b9 => .int (nI (gr b9)))) := by rw [← e2]; exact (xup_ne (by omega)).trans h5
      have h6 : F2 (c + 6) = some (.inr (0, 8, fun b9 => .int (nI (gz b9)))) := by rw [← e2]; exact xup_eq
      have hag : ∀ a9 : Nat, (a9 < c ∨ c + 7 ≤ a9) → F2 a9 = F a9 := fun a9 q0 => by rw [← e2]; exact (xup_ne (by omega)).trans (hag a9 q0)
      subst egz
      refine x_aload_n hC d_Code_join_36 rfl rfl ?_
      refine x_dup hC d_Code_join_37 rfl ?_
      refine x_getf hC kf_Code_33 h0 rfl d_Code_join_38 ?_
      refine x_aload_n hC d_Code_join_41 rfl rfl ?_
      refine x_getf hC kf_Code_27 h0 rfl d_Code_join_42 ?_
      refine x_iload_n hC d_Code_join_45 rfl rfl ?_
      refine x_iald hC h6 (j := min a b) ⟨rfl, by omega, by omega⟩ (x := nI (gw a + gw b)) (congrArg nI updN_eq) d_Code_join_46 ?_
      refine x_iadd hC d_Code_join_47 (v := (nI (js + (gw a + gw b)))) (x_addN rfl) ?_
      refine x_putf hC kf_Code_33 h0 (Nat.le_of_ble_eq_true rfl) rfl rfl d_Code_join_48 (fs1 := [.ref (c + 1), .ref (c + 2), .ref (c + 3), .ref (c + 4), .ref (c + 5), .ref (c + 6), .int (nI (js + (gw a + gw b)))]) rfl ?_
      generalize e3 : xup F2 (c) (.inl (1, [.ref (c + 1), .ref (c + 2), .ref (c + 3), .ref (c + 4), .ref (c + 5), .ref (c + 6), .int (nI (js + (gw a + gw b)))])) = F3
      have h0 : F3 (c) = some (.inl (1, [.ref (c + 1), .ref (c + 2), .ref (c + 3), .ref (c + 4), .ref (c + 5), .ref (c + 6), .int (nI (js + (gw a + gw b)))])) := by rw [← e3]; exact xup_eq
      have h2 : F3 (c + 2) = some (.inr (0, 8, fun b9 => .int (nI (ln b9)))) := by rw [← e3]; exact (xup_ne (by omega)).trans h2
      have h5 : F3 (c + 5) = some (.inr (0, 8, fun b9 => .int (nI (gr b9)))) := by rw [← e3]; exact (xup_ne (by omega)).trans h5
      have h6 : F3 (c + 6) = some (.inr (0, 8, fun b9 => .int (nI ((updN gw (min a b) (gw a + gw b)) b9)))) := by rw [← e3]; exact (xup_ne (by omega)).trans h6
      have hag : ∀ a9 : Nat, (a9 < c ∨ c + 7 ≤ a9) → F3 a9 = F a9 := fun a9 q0 => by rw [← e3]; exact (xup_ne (by omega)).trans (hag a9 q0)
      refine x_iconst hC d_Code_join_51 (v := nI 0) (by decide) ?_
      refine x_istore hC d_Code_join_52 (Nat.le_of_ble_eq_true rfl) (L1 := [some (.ref c), some (.int (nI (a))), some (.int (nI (b))), some (.int (nI (min a b))), some (.int (nI 0))]) rfl ?_
      have loop_54 : ∀ (m9 : Nat) (Fh54 : xF) (i : Nat) (gr1 : Nat → Nat) (ln1 : Nat → Nat), (Fh54 (c) = some (.inl (1, [.ref (c + 1), .ref (c + 2), .ref (c + 3), .ref (c + 4), .ref (c + 5), .ref (c + 6), .int (nI (js + (gw a + gw b)))]))) → (Fh54 (c + 2) = some (.inr (0, 8, fun b9 => .int (nI (ln1 b9))))) → (Fh54 (c + 5) = some (.inr (0, 8, fun b9 => .int (nI (gr1 b9))))) → (Fh54 (c + 6) = some (.inr (0, 8, fun b9 => .int (nI ((updN gw (min a b) (gw a + gw b)) b9))))) → (∀ a9 : Nat, (a9 < c ∨ c + 7 ≤ a9) → Fh54 a9 = F a9) → (i ≤ 8) → (∀ j, i ≤ j → j < 8 → gr1 j = gr j) → (∀ j, i ≤ j → j < 8 → ln1 j = ln j) → (∀ j, j < i → gr1 j = (if gr j = a ∨ gr j = b then min a b else gr j) ∧ ln1 j = (if gr j = a ∨ gr j = b then ln j + 1 else ln j)) → (8 - i < m9) → xX P Θ 54 [some (.ref c), some (.int (nI (a))), some (.int (nI (b))), some (.int (nI (min a b))), some (.int (nI (i)))] [] Fh54 (z) 0 0 := by
        intro m9
        induction m9 with
        | zero => intros; omega
        | succ m9 ih_54 =>
          intro Fh54 i gr1 ln1 h0 h2 h5 h6 hag hi kh kl kd hm_54
          refine x_iload hC d_Code_join_54 rfl ?_
          refine x_bipush hC d_Code_join_56 (v := nI 8) (by decide) ?_
          refine x_icmpN_ge hC d_Code_join_58 (tgt := 108) (by decide) (by omega) (by omega) (fun c_58 => ?_) (fun c_58 => ?_)
          · skip
            exact hret _ _ _ _ _ _ d_Code_join_108 (by decide) (by decide) (⟨ln1, gr1, rfl, rfl, h0, h2, h5, h6, fun j hj => kd j (by omega), hag⟩)
          · skip
            have hbi := hgr i (by omega)
            have hbl := hln i (by omega)
            have hgi : gr1 i = gr i := kh i (by omega) (by omega)
            have hli : ln1 i = ln i := kl i (by omega) (by omega)
            refine x_aload_n hC d_Code_join_61 rfl rfl ?_
            refine x_getf hC kf_Code_24 h0 rfl d_Code_join_62 ?_
            refine x_iload hC d_Code_join_65 rfl ?_
            refine x_iald hC h5 (j := i) ⟨rfl, by omega, by omega⟩ (x := nI (gr1 (i))) rfl d_Code_join_67 ?_
            refine x_iload_n hC d_Code_join_68 rfl rfl ?_
            refine x_icmpN_eq hC d_Code_join_69 (tgt := 83) (by decide) (by omega) (by omega) (fun c_69 => ?_) (fun c_69 => ?_)
            · skip
              refine x_aload_n hC d_Code_join_83 rfl rfl ?_
              refine x_getf hC kf_Code_24 h0 rfl d_Code_join_84 ?_
              refine x_iload hC d_Code_join_87 rfl ?_
              refine x_iload_n hC d_Code_join_89 rfl rfl ?_
              refine x_iast hC h5 (j := i) ⟨rfl, by omega, by omega⟩ d_Code_join_90 (g1 := fun b9 => nI (updN gr1 (i) (min a b) b9)) (x_updN _ _ _) ?_
              generalize egp : updN gr1 (i) (min a b) = gp
              generalize e5 : xup Fh54 (c + 5) (.inr (0, 8, fun b9 => .int (nI (gp b9)))) = F5
              have h0 : F5 (c) = some (.inl (1, [.ref (c + 1), .ref (c + 2), .ref (c + 3), .ref (c + 4), .ref (c + 5), .ref (c + 6), .int (nI (js + (gw a + gw b)))])) := by rw [← e5]; exact (xup_ne (by omega)).trans h0
              have h2 : F5 (c + 2) = some (.inr (0, 8, fun b9 => .int (nI (ln1 b9)))) := by rw [← e5]; exact (xup_ne (by omega)).trans h2
              have h5 : F5 (c + 5) = some (.inr (0, 8, fun b9 => .int (nI (gp b9)))) := by rw [← e5]; exact xup_eq
              have h6 : F5 (c + 6) = some (.inr (0, 8, fun b9 => .int (nI ((updN gw (min a b) (gw a + gw b)) b9)))) := by rw [← e5]; exact (xup_ne (by omega)).trans h6
              have hag : ∀ a9 : Nat, (a9 < c ∨ c + 7 ≤ a9) → F5 a9 = F a9 := fun a9 q0 => by rw [← e5]; exact (xup_ne (by omega)).trans (hag a9 q0)
              refine x_aload_n hC d_Code_join_91 rfl rfl ?_
              refine x_getf hC kf_Code_15 h0 rfl d_Code_join_92 ?_
              refine x_iload hC d_Code_join_95 rfl ?_
              refine x_dup2 hC d_Code_join_97 rfl rfl ?_
              refine x_iald hC h2 (j := i) ⟨rfl, by omega, by omega⟩ (x := nI (ln1 (i))) rfl d_Code_join_98 ?_
              refine x_iconst hC d_Code_join_99 (v := nI 1) (by decide) ?_
              refine x_iadd hC d_Code_join_100 (v := (nI (ln1 (i) + 1))) (x_addN (by omega)) ?_
              refine x_iast hC h2 (j := i) ⟨rfl, by omega, by omega⟩ d_Code_join_101 (g1 := fun b9 => nI (updN ln1 (i) (ln1 (i) + 1) b9)) (x_updN _ _ _) ?_
              generalize egl : updN ln1 (i) (ln1 (i) + 1) = gl
              generalize e7 : xup F5 (c + 2) (.inr (0, 8, fun b9 => .int (nI (gl b9)))) = F7
              have h0 : F7 (c) = some (.inl (1, [.ref (c + 1), .ref (c + 2), .ref (c + 3), .ref (c + 4), .ref (c + 5), .ref (c + 6), .int (nI (js + (gw a + gw b)))])) := by rw [← e7]; exact (xup_ne (by omega)).trans h0
              have h2 : F7 (c + 2) = some (.inr (0, 8, fun b9 => .int (nI (gl b9)))) := by rw [← e7]; exact xup_eq
              have h5 : F7 (c + 5) = some (.inr (0, 8, fun b9 => .int (nI (gp b9)))) := by rw [← e7]; exact (xup_ne (by omega)).trans h5
              have h6 : F7 (c + 6) = some (.inr (0, 8, fun b9 => .int (nI ((updN gw (min a b) (gw a + gw b)) b9)))) := by rw [← e7]; exact (xup_ne (by omega)).trans h6
              have hag : ∀ a9 : Nat, (a9 < c ∨ c + 7 ≤ a9) → F7 a9 = F a9 := fun a9 q0 => by rw [← e7]; exact (xup_ne (by omega)).trans (hag a9 q0)
              refine x_iinc hC d_Code_join_102 rfl (v := (nI (i + 1))) (x_incN 1) (Nat.le_of_ble_eq_true rfl) (L1 := [some (.ref c), some (.int (nI (a))), some (.int (nI (b))), some (.int (nI (min a b))), some (.int (nI (i + 1)))]) rfl ?_
              refine x_goto hC d_Code_join_105 (tgt := 54) (by decide) ?_
              exact ih_54 F7 (i + 1) (gp) (gl) h0 h2 h5 h6 hag (by omega) (fun j hj hj8 => by first | exact kh j (by omega) hj8 | (rw [← egp, updN_ne (by omega)]; exact kh j (by omega) hj8)) (fun j hj hj8 => by first | exact kl j (by omega) hj8 | (rw [← egl, updN_ne (by omega)]; exact kl j (by omega) hj8)) (fun j hj => (Nat.lt_or_ge j i).elim (fun q => by first | exact kd j q | (rw [← egp, ← egl, updN_ne (by omega), updN_ne (by omega)]; exact kd j q)) (fun q => by rw [show j = i by omega]; first | (rw [← egp, ← egl, updN_eq, updN_eq, if_pos (by omega), if_pos (by omega)]; exact ⟨rfl, by omega⟩) | (rw [if_neg (by omega), if_neg (by omega)]; exact ⟨hgi, hli⟩))) (by omega)
            · skip
              refine x_aload_n hC d_Code_join_72 rfl rfl ?_
              refine x_getf hC kf_Code_24 h0 rfl d_Code_join_73 ?_
              refine x_iload hC d_Code_join_76 rfl ?_
              refine x_iald hC h5 (j := i) ⟨rfl, by omega, by omega⟩ (x := nI (gr1 (i))) rfl d_Code_join_78 ?_
              refine x_iload_n hC d_Code_join_79 rfl rfl ?_
              refine x_icmpN_ne hC d_Code_join_80 (tgt := 102) (by decide) (by omega) (by omega) (fun c_80 => ?_) (fun c_80 => ?_)
              · skip
                refine x_iinc hC d_Code_join_102 rfl (v := (nI (i + 1))) (x_incN 1) (Nat.le_of_ble_eq_true rfl) (L1 := [some (.ref c), some (.int (nI (a))), some (.int (nI (b))), some (.int (nI (min a b))), some (.int (nI (i + 1)))]) rfl ?_
                refine x_goto hC d_Code_join_105 (tgt := 54) (by decide) ?_
                exact ih_54 Fh54 (i + 1) (gr1) (ln1) h0 h2 h5 h6 hag (by omega) (fun j hj hj8 => by first | exact kh j (by omega) hj8 | (rw [← egp, updN_ne (by omega)]; exact kh j (by omega) hj8)) (fun j hj hj8 => by first | exact kl j (by omega) hj8 | (rw [← egl, updN_ne (by omega)]; exact kl j (by omega) hj8)) (fun j hj => (Nat.lt_or_ge j i).elim (fun q => by first | exact kd j q | (rw [← egp, ← egl, updN_ne (by omega), updN_ne (by omega)]; exact kd j q)) (fun q => by rw [show j = i by omega]; first | (rw [← egp, ← egl, updN_eq, updN_eq, if_pos (by omega), if_pos (by omega)]; exact ⟨rfl, by omega⟩) | (rw [if_neg (by omega), if_neg (by omega)]; exact ⟨hgi, hli⟩))) (by omega)
              · skip
                refine x_aload_n hC d_Code_join_83 rfl rfl ?_
                refine x_getf hC kf_Code_24 h0 rfl d_Code_join_84 ?_
                refine x_iload hC d_Code_join_87 rfl ?_
                refine x_iload_n hC d_Code_join_89 rfl rfl ?_
                refine x_iast hC h5 (j := i) ⟨rfl, by omega, by omega⟩ d_Code_join_90 (g1 := fun b9 => nI (updN gr1 (i) (min a b) b9)) (x_updN _ _ _) ?_
                generalize egp : updN gr1 (i) (min a b) = gp
                generalize e9 : xup Fh54 (c + 5) (.inr (0, 8, fun b9 => .int (nI (gp b9)))) = F9
                have h0 : F9 (c) = some (.inl (1, [.ref (c + 1), .ref (c + 2), .ref (c + 3), .ref (c + 4), .ref (c + 5), .ref (c + 6), .int (nI (js + (gw a + gw b)))])) := by rw [← e9]; exact (xup_ne (by omega)).trans h0
                have h2 : F9 (c + 2) = some (.inr (0, 8, fun b9 => .int (nI (ln1 b9)))) := by rw [← e9]; exact (xup_ne (by omega)).trans h2
                have h5 : F9 (c + 5) = some (.inr (0, 8, fun b9 => .int (nI (gp b9)))) := by rw [← e9]; exact xup_eq
                have h6 : F9 (c + 6) = some (.inr (0, 8, fun b9 => .int (nI ((updN gw (min a b) (gw a + gw b)) b9)))) := by rw [← e9]; exact (xup_ne (by omega)).trans h6
                have hag : ∀ a9 : Nat, (a9 < c ∨ c + 7 ≤ a9) → F9 a9 = F a9 := fun a9 q0 => by rw [← e9]; exact (xup_ne (by omega)).trans (hag a9 q0)
                refine x_aload_n hC d_Code_join_91 rfl rfl ?_
                refine x_getf hC kf_Code_15 h0 rfl d_Code_join_92 ?_
                refine x_iload hC d_Code_join_95 rfl ?_
                refine x_dup2 hC d_Code_join_97 rfl rfl ?_
                refine x_iald hC h2 (j := i) ⟨rfl, by omega, by omega⟩ (x := nI (ln1 (i))) rfl d_Code_join_98 ?_
                refine x_iconst hC d_Code_join_99 (v := nI 1) (by decide) ?_
                refine x_iadd hC d_Code_join_100 (v := (nI (ln1 (i) + 1))) (x_addN (by omega)) ?_
                refine x_iast hC h2 (j := i) ⟨rfl, by omega, by omega⟩ d_Code_join_101 (g1 := fun b9 => nI (updN ln1 (i) (ln1 (i) + 1) b9)) (x_updN _ _ _) ?_
                generalize egl : updN ln1 (i) (ln1 (i) + 1) = gl
                generalize e11 : xup F9 (c + 2) (.inr (0, 8, fun b9 => .int (nI (gl b9)))) = F11
                have h0 : F11 (c) = some (.inl (1, [.ref (c + 1), .ref (c + 2), .ref (c + 3), .ref (c + 4), .ref (c + 5), .ref (c + 6), .int (nI (js + (gw a + gw b)))])) := by rw [← e11]; exact (xup_ne (by omega)).trans h0
                have h2 : F11 (c + 2) = some (.inr (0, 8, fun b9 => .int (nI (gl b9)))) := by rw [← e11]; exact xup_eq
                have h5 : F11 (c + 5) = some (.inr (0, 8, fun b9 => .int (nI (gp b9)))) := by rw [← e11]; exact (xup_ne (by omega)).trans h5
                have h6 : F11 (c + 6) = some (.inr (0, 8, fun b9 => .int (nI ((updN gw (min a b) (gw a + gw b)) b9)))) := by rw [← e11]; exact (xup_ne (by omega)).trans h6
                have hag : ∀ a9 : Nat, (a9 < c ∨ c + 7 ≤ a9) → F11 a9 = F a9 := fun a9 q0 => by rw [← e11]; exact (xup_ne (by omega)).trans (hag a9 q0)
                refine x_iinc hC d_Code_join_102 rfl (v := (nI (i + 1))) (x_incN 1) (Nat.le_of_ble_eq_true rfl) (L1 := [some (.ref c), some (.int (nI (a))), some (.int (nI (b))), some (.int (nI (min a b))), some (.int (nI (i + 1)))]) rfl ?_
                refine x_goto hC d_Code_join_105 (tgt := 54) (by decide) ?_
                exact ih_54 F11 (i + 1) (gp) (gl) h0 h2 h5 h6 hag (by omega) (fun j hj hj8 => by first | exact kh j (by omega) hj8 | (rw [← egp, updN_ne (by omega)]; exact kh j (by omega) hj8)) (fun j hj hj8 => by first | exact kl j (by omega) hj8 | (rw [← egl, updN_ne (by omega)]; exact kl j (by omega) hj8)) (fun j hj => (Nat.lt_or_ge j i).elim (fun q => by first | exact kd j q | (rw [← egp, ← egl, updN_ne (by omega), updN_ne (by omega)]; exact kd j q)) (fun q => by rw [show j = i by omega]; first | (rw [← egp, ← egl, updN_eq, updN_eq, if_pos (by omega), if_pos (by omega)]; exact ⟨rfl, by omega⟩) | (rw [if_neg (by omega), if_neg (by omega)]; exact ⟨hgi, hli⟩))) (by omega)
      exact loop_54 (8 - 0 + 1) F3 (0) (gr) (ln) h0 h2 h5 h6 hag (by omega) (fun _ _ _ => rfl) (fun _ _ _ => rfl) (fun _ hj => absurd hj (by omega)) (by omega)
    · skip
      exact absurd c_7 (fun e => by rw [show (-1 : Int32) = xo 8 from rfl, xo_eqN (by omega) (by omega)] at e; omega)

