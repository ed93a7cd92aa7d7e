/-! the reference: its rows and what they tell -/
def rMsg (g : Nat → Nat) (e : mS) : Prop := g 0 = e.1 ∧ g 1 = e.2.1 ∧ g 2 = e.2.2.1 ∧ ∀ j, j < e.2.2.1 → g (3 + j) + 97 = e.2.2.2 j
def rRow (g : Nat → Nat) (A : aS) : Prop :=
  (g 0 = A.2.1.1 ∧ g 1 = A.2.2.1.1 ∧ g 2 = A.2.2.1.2.1 ∧ g 3 = A.2.2.2.2.2.1 ∧ g 4 = A.2.2.2.2.2.2.1 ∧ g 5 = A.2.2.2.2.2.2.2.1 ∧ g 6 = A.2.2.2.2.2.2.2.2 ∧ g 7 = A.2.2.2.1.1 * 7 ∧ g 9 = A.2.2.2.2.1.1) ∧
  (∀ j, j < 8 → g (10 + j) = A.1 j) ∧ (∀ j, j < A.2.1.1 → g (18 + j) + 97 = A.2.1.2 j) ∧
  (∀ i, i < A.2.2.1.1 → rMsg (fun q => g (34 + 19 * i + q)) (A.2.2.1.2.2 i)) ∧
  (0 < A.2.2.2.1.1 → g 8 = A.2.2.2.1.2.2.1 ∧ (∀ j, j < 8 → g (186 + j) = hLen A.2.2.2.1.2.2.2.2 j ∧ g (194 + j) = hVal (hLen A.2.2.2.1.2.2.2.2) j) ∧ ∀ j, j < A.2.2.2.1.2.2.1 → g (202 + j) + 97 = A.2.2.2.1.2.2.2.1 j) ∧
  (∀ j, j < A.2.2.2.2.1.1 → g (218 + j) + 97 = A.2.2.2.2.1.2 j) ∧
  (∀ b, b < A.2.2.2.1.1 → ∀ p, p < 7 → g (234 + 7 * b + p) = bitP (A.2.2.2.1.2.1 b) (p + 1))
/-- what holds of every state that is reached -/
def aInv (A : aS) : Prop :=
  (A.2.1.1 ≤ 16 ∧ A.2.2.1.1 ≤ 8 ∧ A.2.2.2.1.1 ≤ 28 ∧ A.2.2.2.1.2.2.1 ≤ 16 ∧ A.2.2.2.2.1.1 ≤ 16) ∧
  (∀ j, j < 8 → 1 ≤ A.1 j ∧ A.1 j ≤ 99) ∧ (∀ j, j < A.2.1.1 → isSy (A.2.1.2 j)) ∧
  (∀ i, i < A.2.2.1.1 → (A.2.2.1.2.2 i).1 < A.2.2.1.2.1 ∧ (1 ≤ (A.2.2.1.2.2 i).2.1 ∧ (A.2.2.1.2.2 i).2.1 ≤ 5) ∧ (A.2.2.1.2.2 i).2.2.1 ≤ 16 ∧ ∀ j, j < (A.2.2.1.2.2 i).2.2.1 → isSy ((A.2.2.1.2.2 i).2.2.2 j)) ∧
  (∀ i, ∀ j, i < j → j < A.2.2.1.1 → (A.2.2.1.2.2 i).1 < (A.2.2.1.2.2 j).1) ∧
  (∀ j, j < A.2.2.2.1.2.2.1 → isSy (A.2.2.2.1.2.2.2.1 j)) ∧ (∀ j, j < A.2.2.2.2.1.1 → isSy (A.2.2.2.2.1.2 j)) ∧
  (∀ b, b < A.2.2.2.1.1 → A.2.2.2.1.2.1 b < 128) ∧ A.2.2.1.2.1 < 1000
theorem rMsg_ext {g h : Nat → Nat} {e : mS} (he : e.2.2.1 ≤ 16) (hg : ∀ q, q < 19 → h q = g q) (r : rMsg g e) : rMsg h e := ⟨(hg 0 (by omega)).trans r.1, (hg 1 (by omega)).trans r.2.1, (hg 2 (by omega)).trans r.2.2.1, fun j hj => by rw [hg (3 + j) (by omega)]; exact r.2.2.2 j hj⟩
theorem rRow_ext {g h : Nat → Nat} {A : aS} (hA : aInv A) (hg : ∀ q, q < 430 → h q = g q) (r : rRow g A) : rRow h A := by
  obtain ⟨⟨a0, a1, a2, a3, a4, a5, a6, a7, a9⟩, b1, b2, b3, b4, b5, b6⟩ := r
  obtain ⟨⟨i1, i2, i3, i4, i5⟩, -, -, j3, -⟩ := hA
  refine ⟨⟨(hg 0 (by omega)).trans a0, (hg 1 (by omega)).trans a1, (hg 2 (by omega)).trans a2, (hg 3 (by omega)).trans a3, (hg 4 (by omega)).trans a4, (hg 5 (by omega)).trans a5, (hg 6 (by omega)).trans a6, (hg 7 (by omega)).trans a7, (hg 9 (by omega)).trans a9⟩, fun j hj => (hg _ (by omega)).trans (b1 j hj), fun j hj => by rw [hg _ (by omega)]; exact b2 j hj, fun i hi => rMsg_ext (j3 i hi).2.2.1 (fun q hq => hg _ (by omega)) (b3 i hi), fun hk => ?_, fun j hj => by rw [hg _ (by omega)]; exact b5 j hj, fun b hb p hp => by rw [hg _ (by omega)]; exact b6 b hb p hp⟩
  obtain ⟨c1, c2, c3⟩ := b4 hk
  exact ⟨(hg _ (by omega)).trans c1, fun j hj => by rw [hg _ (by omega), hg _ (by omega)]; exact c2 j hj, fun j hj => by rw [hg _ (by omega)]; exact c3 j hj⟩
/-- row f laid over row t -/
def cpyS (g : Nat → Nat) (f t i : Nat) : Nat → Nat := fun q => if 430 * t ≤ q ∧ q < 430 * t + i then g (430 * f + (q - 430 * t)) else g q
def cpyR (g : Nat → Nat) (f t : Nat) : Nat → Nat := cpyS g f t 430
theorem cpyS_0 (g : Nat → Nat) (f t : Nat) : cpyS g f t 0 = g := funext (fun q => if_neg (by omega))
theorem cpyS_s {g : Nat → Nat} {f t i : Nat} (h : f ≠ t) (hi : i < 430) : updN (cpyS g f t i) (430 * t + i) (cpyS g f t i (430 * f + i)) = cpyS g f t (i + 1) := by
  funext q
  have h1 : cpyS g f t i (430 * f + i) = g (430 * f + i) := if_neg (by omega)
  rw [h1]
  unfold updN cpyS
  by_cases e : q = 430 * t + i
  · rw [if_pos e, if_pos (by omega), e, show 430 * t + i - 430 * t = i by omega]
  · rw [if_neg e]
    by_cases c : 430 * t ≤ q ∧ q < 430 * t + i
    · rw [if_pos c, if_pos (by omega)]
    · rw [if_neg c, if_neg (by omega)]
theorem cpyR_in {g : Nat → Nat} {f t q : Nat} (h : q < 430) : cpyR g f t (430 * t + q) = g (430 * f + q) := by
  unfold cpyR cpyS
  rw [if_pos (by omega), show 430 * t + q - 430 * t = q by omega]
theorem cpyR_out {g : Nat → Nat} {f t q : Nat} (h : q < 430 * t ∨ 430 * t + 430 ≤ q) : cpyR g f t q = g q := if_neg (by omega)
def shG (g : Nat → Nat) : Nat → (Nat → Nat)
  | 0 => g
  | i + 1 => cpyR (shG g i) (i + 2) (i + 1)
def endG (g : Nat → Nat) (ch : Nat) : Nat → Nat := if ch = 8 then cpyR (shG g 7) 10 8 else cpyR g 10 (ch + 1)
def endC (ch : Nat) : Nat := if ch = 8 then 8 else ch + 1
def thC (y a1 a2 a3 a4 : Nat) : Nat := if y = 1 then a1 else if y = 2 then a2 else if y = 3 then a3 else if y = 4 then a4 else 0

theorem d_MessageCoderModel_in_0 : decode prog_14_method_3_code 0 = .ok (.iload_n 0, 1) := by decide +kernel
theorem d_MessageCoderModel_in_1 : decode prog_14_method_3_code 1 = .ok (.iload_n 1, 1) := by decide +kernel
theorem d_MessageCoderModel_in_2 : decode prog_14_method_3_code 2 = .ok (.if_icmp .lt 12, 3) := by decide +kernel
theorem d_MessageCoderModel_in_5 : decode prog_14_method_3_code 5 = .ok (.iload_n 0, 1) := by decide +kernel
theorem d_MessageCoderModel_in_6 : decode prog_14_method_3_code 6 = .ok (.iload_n 2, 1) := by decide +kernel
theorem d_MessageCoderModel_in_7 : decode prog_14_method_3_code 7 = .ok (.if_icmp .gt 7, 3) := by decide +kernel
theorem d_MessageCoderModel_in_10 : decode prog_14_method_3_code 10 = .ok (.iconst 1, 1) := by decide +kernel
theorem d_MessageCoderModel_in_11 : decode prog_14_method_3_code 11 = .ok (.goto 4, 3) := by decide +kernel
theorem d_MessageCoderModel_in_14 : decode prog_14_method_3_code 14 = .ok (.iconst 0, 1) := by decide +kernel
theorem d_MessageCoderModel_in_15 : decode prog_14_method_3_code 15 = .ok (.ireturn, 1) := by decide +kernel
set_option maxHeartbeats 4000000 in
set_option maxRecDepth 20000 in
theorem c_MessageCoderModel_in {P : xP} {F : xF} {z : Nat} {v : Int32} {u1 : Int32} {u2 : Int32}   : xM P xy_MessageCoderModel_in [.int v, .int u1, .int u2] F (z) 0 0 (fun r9 F9 z9 => r9 = some (.int (xb (u1 ≤ v ∧ v ≤ u2))) ∧ F9 = F ∧ z9 = z) := by
  refine xM_i .boolean rfl (Nat.le_of_ble_eq_true rfl) (L0 := [some (.int v), some (.int u1), some (.int u2)]) rfl rfl fun Θ hC hret => ?_
  refine x_iload_n hC d_MessageCoderModel_in_0 rfl rfl ?_
  refine x_iload_n hC d_MessageCoderModel_in_1 rfl rfl ?_
  refine x_icmp_lt hC d_MessageCoderModel_in_2 (tgt := 14) (by decide) (fun c_2 => ?_) (fun c_2 => ?_)
  · skip
    refine x_iconst hC d_MessageCoderModel_in_14 (v := nI 0) (by decide) ?_
    exact hret _ _ _ _ _ _ _ d_MessageCoderModel_in_15 (by decide) (by decide) rfl (⟨congrArg (fun q => some (Value.int q)) (xb_f0 (fun h9 => k2_nle c_2 h9.1)), rfl, rfl⟩)
  · skip
    refine x_iload_n hC d_MessageCoderModel_in_5 rfl rfl ?_
    refine x_iload_n hC d_MessageCoderModel_in_6 rfl rfl ?_
    refine x_icmp_gt hC d_MessageCoderModel_in_7 (tgt := 14) (by decide) (fun c_7 => ?_) (fun c_7 => ?_)
    · skip
      refine x_iconst hC d_MessageCoderModel_in_14 (v := nI 0) (by decide) ?_
      exact hret _ _ _ _ _ _ _ d_MessageCoderModel_in_15 (by decide) (by decide) rfl (⟨congrArg (fun q => some (Value.int q)) (xb_f0 (fun h9 => k2_nle c_7 h9.2)), rfl, rfl⟩)
    · skip
      refine x_iconst hC d_MessageCoderModel_in_10 (v := nI 1) (by decide) ?_
      refine x_goto hC d_MessageCoderModel_in_11 (tgt := 15) (by decide) ?_
      exact hret _ _ _ _ _ _ _ d_MessageCoderModel_in_15 (by decide) (by decide) rfl (⟨congrArg (fun q => some (Value.int q)) (xb_t1 ⟨k2_le c_2, k2_le c_7⟩), rfl, rfl⟩)

theorem d_MessageCoderModel_isSymbol_0 : decode prog_14_method_8_code 0 = .ok (.iload_n 0, 1) := by decide +kernel
theorem d_MessageCoderModel_isSymbol_1 : decode prog_14_method_8_code 1 = .ok (.bipush 97, 2) := by decide +kernel
theorem d_MessageCoderModel_isSymbol_3 : decode prog_14_method_8_code 3 = .ok (.bipush 104, 2) := by decide +kernel
theorem d_MessageCoderModel_isSymbol_5 : decode prog_14_method_8_code 5 = .ok (.invokestatic 64, 3) := by decide +kernel
theorem d_MessageCoderModel_isSymbol_8 : decode prog_14_method_8_code 8 = .ok (.ireturn, 1) := by decide +kernel
set_option maxHeartbeats 4000000 in
set_option maxRecDepth 20000 in
theorem c_MessageCoderModel_isSymbolN {P : xP} {F : xF} {z : Nat} {c : Nat}  (hcb : c < 65536) : xM P xy_MessageCoderModel_isSymbol [.int (nI (c))] F (z) 0 0 (fun r9 F9 z9 => r9 = some (.int (xb (97 ≤ c ∧ c < 105))) ∧ F9 = F ∧ z9 = z) := by
  refine xM_i .boolean rfl (Nat.le_of_ble_eq_true rfl) (L0 := [some (.int (nI (c)))]) rfl rfl fun Θ hC hret => ?_
  refine x_iload_n hC d_MessageCoderModel_isSymbol_0 rfl rfl ?_
  refine x_bipush hC d_MessageCoderModel_isSymbol_1 (v := nI 97) (by decide) ?_
  refine x_bipush hC d_MessageCoderModel_isSymbol_3 (v := nI 104) (by decide) ?_
  refine x_callS hC ks_MessageCoderModel_64 (c_MessageCoderModel_in ) (by decide) rfl rfl rfl (Nat.le_of_ble_eq_true rfl) (by decide) d_MessageCoderModel_isSymbol_5 (fun r9 F9 z9 hp9 => ?_)
  obtain ⟨rfl, h9b, h9c⟩ := hp9
  rw [h9b, h9c]
  clear h9b h9c F9 z9
  exact hret _ _ _ _ _ _ _ d_MessageCoderModel_isSymbol_8 (by decide) (by decide) xb_nar (⟨congrArg (fun q => some (Value.int q)) (xb_c (by rw [nI_leI (by omega) (by omega), nI_leI (by omega) (by omega)]; omega)), rfl, rfl⟩)

set_option maxHeartbeats 4000000 in
set_option maxRecDepth 20000 in
theorem c_MessageCoderModel_isSymbol {P : xP} {F : xF} {z : Nat} {v : Int32}   : xM P xy_MessageCoderModel_isSymbol [.int v] F (z) 0 0 (fun r9 F9 z9 => r9 = some (.int (xb (nI 97 ≤ v ∧ v ≤ nI 104))) ∧ F9 = F ∧ z9 = z) := by
  refine xM_i .boolean rfl (Nat.le_of_ble_eq_true rfl) (L0 := [some (.int v)]) rfl rfl fun Θ hC hret => ?_
  refine x_iload_n hC d_MessageCoderModel_isSymbol_0 rfl rfl ?_
  refine x_bipush hC d_MessageCoderModel_isSymbol_1 (v := nI 97) (by decide) ?_
  refine x_bipush hC d_MessageCoderModel_isSymbol_3 (v := nI 104) (by decide) ?_
  refine x_callS hC ks_MessageCoderModel_64 (c_MessageCoderModel_in ) (by decide) rfl rfl rfl (Nat.le_of_ble_eq_true rfl) (by decide) d_MessageCoderModel_isSymbol_5 (fun r9 F9 z9 hp9 => ?_)
  obtain ⟨rfl, h9b, h9c⟩ := hp9
  rw [h9b, h9c]
  clear h9b h9c F9 z9
  exact hret _ _ _ _ _ _ _ d_MessageCoderModel_isSymbol_8 (by decide) (by decide) xb_nar (⟨rfl, rfl, rfl⟩)

theorem d_MessageCoderModel_thrown_0 : decode prog_14_method_2_code 0 = .ok (.aload_n 0, 1) := by decide +kernel
theorem d_MessageCoderModel_thrown_1 : decode prog_14_method_2_code 1 = .ok (.getfield 51, 3) := by decide +kernel
theorem d_MessageCoderModel_thrown_4 : decode prog_14_method_2_code 4 = .ok (.ireturn, 1) := by decide +kernel
set_option maxHeartbeats 4000000 in
set_option maxRecDepth 20000 in
theorem c_MessageCoderModel_thrown {P : xP} {F : xF} {z : Nat} {m : Nat} {th : Nat} {ch : Nat} {sv : Nat} {rs : Int32} {bm : Nat} {dm : Nat} {lz : Nat} {ty : Nat} {he : Nat} {er : Int32} {ea : Int32} {fa : Int32} {cn : Nat} (o0 : F (m) = some (.inl (10, [.int (nI (th)), .ref (m + 1), .int (nI (ch)), .int (nI (sv)), .int rs, .ref (m + 2), .ref (m + 3), .ref (m + 4), .ref (m + 5), .ref (m + 6), .int (nI (bm)), .ref (m + 7), .int (nI (dm)), .ref (m + 8), .ref (m + 9), .int (nI (lz)), .ref (m + 10), .int (nI (ty)), .int (nI (he)), .int er, .int ea, .int fa, .ref (m + 11), .int (nI (cn))])))  : xM P xy_MessageCoderModel_thrown [.ref m] F (z) 0 0 (fun r9 F9 z9 => r9 = some (.int (nI (th))) ∧ F9 = F ∧ z9 = z) := by
  refine xM_i .int rfl (Nat.le_of_ble_eq_true rfl) (L0 := [some (.ref m)]) rfl rfl fun Θ hC hret => ?_
  refine x_aload_n hC d_MessageCoderModel_thrown_0 rfl rfl ?_
  refine x_getf hC kf_MessageCoderModel_51 o0 rfl d_MessageCoderModel_thrown_1 ?_
  exact hret _ _ _ _ _ _ _ d_MessageCoderModel_thrown_4 (by decide) (by decide) rfl (⟨rfl, rfl, rfl⟩)

theorem d_MessageCoderModel_isFine_0 : decode prog_14_method_7_code 0 = .ok (.aload_n 0, 1) := by decide +kernel
theorem d_MessageCoderModel_isFine_1 : decode prog_14_method_7_code 1 = .ok (.iload_n 1, 1) := by decide +kernel
theorem d_MessageCoderModel_isFine_2 : decode prog_14_method_7_code 2 = .ok (.ifCond .eq 7, 3) := by decide +kernel
theorem d_MessageCoderModel_isFine_5 : decode prog_14_method_7_code 5 = .ok (.iconst 0, 1) := by decide +kernel
theorem d_MessageCoderModel_isFine_6 : decode prog_14_method_7_code 6 = .ok (.goto 4, 3) := by decide +kernel
theorem d_MessageCoderModel_isFine_9 : decode prog_14_method_7_code 9 = .ok (.iconst 1, 1) := by decide +kernel
theorem d_MessageCoderModel_isFine_10 : decode prog_14_method_7_code 10 = .ok (.putfield 51, 3) := by decide +kernel
theorem d_MessageCoderModel_isFine_13 : decode prog_14_method_7_code 13 = .ok (.iload_n 1, 1) := by decide +kernel
theorem d_MessageCoderModel_isFine_14 : decode prog_14_method_7_code 14 = .ok (.ireturn, 1) := by decide +kernel
set_option maxHeartbeats 4000000 in
set_option maxRecDepth 20000 in
theorem c_MessageCoderModel_isFine {P : xP} {F : xF} {z : Nat} {m : Nat} {th : Nat} {ch : Nat} {sv : Nat} {rs : Int32} {bm : Nat} {dm : Nat} {lz : Nat} {ty : Nat} {he : Nat} {er : Int32} {ea : Int32} {fa : Int32} {cn : Nat} {p : Prop} {hdp : Decidable p} (o0 : F (m) = some (.inl (10, [.int (nI (th)), .ref (m + 1), .int (nI (ch)), .int (nI (sv)), .int rs, .ref (m + 2), .ref (m + 3), .ref (m + 4), .ref (m + 5), .ref (m + 6), .int (nI (bm)), .ref (m + 7), .int (nI (dm)), .ref (m + 8), .ref (m + 9), .int (nI (lz)), .ref (m + 10), .int (nI (ty)), .int (nI (he)), .int er, .int ea, .int fa, .ref (m + 11), .int (nI (cn))])))  : xM P xy_MessageCoderModel_isFine [.ref m, .int (xb (p))] F (z) 0 0 (fun r9 F9 z9 => r9 = some (.int (xb (p))) ∧ z9 = z ∧ F9 (m) = some (.inl (10, [.int (nI ((if p then 0 else 1))), .ref (m + 1), .int (nI (ch)), .int (nI (sv)), .int rs, .ref (m + 2), .ref (m + 3), .ref (m + 4), .ref (m + 5), .ref (m + 6), .int (nI (bm)), .ref (m + 7), .int (nI (dm)), .ref (m + 8), .ref (m + 9), .int (nI (lz)), .ref (m + 10), .int (nI (ty)), .int (nI (he)), .int er, .int ea, .int fa, .ref (m + 11), .int (nI (cn))])) ∧ (∀ a9 : Nat, (a9 < m ∨ m + 1 ≤ a9) → F9 a9 = F a9)) := by
  refine xM_i .boolean rfl (Nat.le_of_ble_eq_true rfl) (L0 := [some (.ref m), some (.int (xb (p)))]) rfl rfl fun Θ hC hret => ?_
  have hag : ∀ a9 : Nat, (a9 < m ∨ m + 1 ≤ a9) → F a9 = F a9 := fun a9 _ => rfl
  refine x_aload_n hC d_MessageCoderModel_isFine_0 rfl rfl ?_
  refine x_iload_n hC d_MessageCoderModel_isFine_1 rfl rfl ?_
  refine x_ifB_eq hC d_MessageCoderModel_isFine_2 (tgt := 9) (by decide) (fun c_2 => ?_) (fun c_2 => ?_)
  · skip
    refine x_iconst hC d_MessageCoderModel_isFine_9 (v := nI 1) (by decide) ?_
    refine x_putf hC kf_MessageCoderModel_51 o0 (Nat.le_of_ble_eq_true rfl) rfl rfl d_MessageCoderModel_isFine_10 (fs1 := [.int (nI 1), .ref (m + 1), .int (nI (ch)), .int (nI (sv)), .int rs, .ref (m + 2), .ref (m + 3), .ref (m + 4), .ref (m + 5), .ref (m + 6), .int (nI (bm)), .ref (m + 7), .int (nI (dm)), .ref (m + 8), .ref (m + 9), .int (nI (lz)), .ref (m + 10), .int (nI (ty)), .int (nI (he)), .int er, .int ea, .int fa, .ref (m + 11), .int (nI (cn))]) rfl ?_
    generalize e1 : xup F (m) (.inl (10, [.int (nI 1), .ref (m + 1), .int (nI (ch)), .int (nI (sv)), .int rs, .ref (m + 2), .ref (m + 3), .ref (m + 4), .ref (m + 5), .ref (m + 6), .int (nI (bm)), .ref (m + 7), .int (nI (dm)), .ref (m + 8), .ref (m + 9), .int (nI (lz)), .ref (m + 10), .int (nI (ty)), .int (nI (he)), .int er, .int ea, .int fa, .ref (m + 11), .int (nI (cn))])) = F1
    have o0 : F1 (m) = some (.inl (10, [.int (nI 1), .ref (m + 1), .int (nI (ch)), .int (nI (sv)), .int rs, .ref (m + 2), .ref (m + 3), .ref (m + 4), .ref (m + 5), .ref (m + 6), .int (nI (bm)), .ref (m + 7), .int (nI (dm)), .ref (m + 8), .ref (m + 9), .int (nI (lz)), .ref (m + 10), .int (nI (ty)), .int (nI (he)), .int er, .int ea, .int fa, .ref (m + 11), .int (nI (cn))])) := by rw [← e1]; exact xup_eq
    have hag : ∀ a9 : Nat, (a9 < m ∨ m + 1 ≤ a9) → F1 a9 = F a9 := fun a9 q0 => by rw [← e1]; exact (xup_ne (by omega)).trans (hag a9 q0)
    refine x_iload_n hC d_MessageCoderModel_isFine_13 rfl rfl ?_
    exact hret _ _ _ _ _ _ _ d_MessageCoderModel_isFine_14 (by decide) (by decide) xb_nar (⟨rfl, rfl, by rw [if_neg c_2]; exact o0, hag⟩)
  · skip
    refine x_iconst hC d_MessageCoderModel_isFine_5 (v := nI 0) (by decide) ?_
    refine x_goto hC d_MessageCoderModel_isFine_6 (tgt := 10) (by decide) ?_
    refine x_putf hC kf_MessageCoderModel_51 o0 (Nat.le_of_ble_eq_true rfl) rfl rfl d_MessageCoderModel_isFine_10 (fs1 := [.int (nI 0), .ref (m + 1), .int (nI (ch)), .int (nI (sv)), .int rs, .ref (m + 2), .ref (m + 3), .ref (m + 4), .ref (m + 5), .ref (m + 6), .int (nI (bm)), .ref (m + 7), .int (nI (dm)), .ref (m + 8), .ref (m + 9), .int (nI (lz)), .ref (m + 10), .int (nI (ty)), .int (nI (he)), .int er, .int ea, .int fa, .ref (m + 11), .int (nI (cn))]) rfl ?_
    generalize e2 : xup F (m) (.inl (10, [.int (nI 0), .ref (m + 1), .int (nI (ch)), .int (nI (sv)), .int rs, .ref (m + 2), .ref (m + 3), .ref (m + 4), .ref (m + 5), .ref (m + 6), .int (nI (bm)), .ref (m + 7), .int (nI (dm)), .ref (m + 8), .ref (m + 9), .int (nI (lz)), .ref (m + 10), .int (nI (ty)), .int (nI (he)), .int er, .int ea, .int fa, .ref (m + 11), .int (nI (cn))])) = F2
    have o0 : F2 (m) = some (.inl (10, [.int (nI 0), .ref (m + 1), .int (nI (ch)), .int (nI (sv)), .int rs, .ref (m + 2), .ref (m + 3), .ref (m + 4), .ref (m + 5), .ref (m + 6), .int (nI (bm)), .ref (m + 7), .int (nI (dm)), .ref (m + 8), .ref (m + 9), .int (nI (lz)), .ref (m + 10), .int (nI (ty)), .int (nI (he)), .int er, .int ea, .int fa, .ref (m + 11), .int (nI (cn))])) := by rw [← e2]; exact xup_eq
    have hag : ∀ a9 : Nat, (a9 < m ∨ m + 1 ≤ a9) → F2 a9 = F a9 := fun a9 q0 => by rw [← e2]; exact (xup_ne (by omega)).trans (hag a9 q0)
    refine x_iload_n hC d_MessageCoderModel_isFine_13 rfl rfl ?_
    exact hret _ _ _ _ _ _ _ d_MessageCoderModel_isFine_14 (by decide) (by decide) xb_nar (⟨rfl, rfl, by rw [if_pos c_2]; exact o0, hag⟩)

theorem d_MessageCoderModel_told_0 : decode prog_14_method_64_code 0 = .ok (.aload_n 0, 1) := by decide +kernel
theorem d_MessageCoderModel_told_1 : decode prog_14_method_64_code 1 = .ok (.iconst 0, 1) := by decide +kernel
theorem d_MessageCoderModel_told_2 : decode prog_14_method_64_code 2 = .ok (.putfield 51, 3) := by decide +kernel
theorem d_MessageCoderModel_told_5 : decode prog_14_method_64_code 5 = .ok (.aload_n 0, 1) := by decide +kernel
theorem d_MessageCoderModel_told_6 : decode prog_14_method_64_code 6 = .ok (.getfield 9, 3) := by decide +kernel
theorem d_MessageCoderModel_told_9 : decode prog_14_method_64_code 9 = .ok (.iload_n 1, 1) := by decide +kernel
theorem d_MessageCoderModel_told_10 : decode prog_14_method_64_code 10 = .ok (.iaload, 1) := by decide +kernel
theorem d_MessageCoderModel_told_11 : decode prog_14_method_64_code 11 = .ok (.ireturn, 1) := by decide +kernel
set_option maxHeartbeats 4000000 in
set_option maxRecDepth 20000 in
theorem c_MessageCoderModel_told {P : xP} {F : xF} {z : Nat} {m : Nat} {th : Nat} {ch : Nat} {sv : Nat} {rs : Int32} {bm : Nat} {dm : Nat} {lz : Nat} {ty : Nat} {he : Nat} {er : Int32} {ea : Int32} {fa : Int32} {cn : Nat} {g : Nat → Nat} {i : Nat} (o0 : F (m) = some (.inl (10, [.int (nI (th)), .ref (m + 1), .int (nI (ch)), .int (nI (sv)), .int rs, .ref (m + 2), .ref (m + 3), .ref (m + 4), .ref (m + 5), .ref (m + 6), .int (nI (bm)), .ref (m + 7), .int (nI (dm)), .ref (m + 8), .ref (m + 9), .int (nI (lz)), .ref (m + 10), .int (nI (ty)), .int (nI (he)), .int er, .int ea, .int fa, .ref (m + 11), .int (nI (cn))]))) (ga : F (m + 1) = some (.inr (0, 4730, fun b9 => .int (nI (g b9))))) (hi : i < 4730) : xM P xy_MessageCoderModel_told [.ref m, .int (nI (i))] F (z) 0 0 (fun r9 F9 z9 => r9 = some (.int (nI (g i))) ∧ z9 = z ∧ F9 (m) = some (.inl (10, [.int (nI 0), .ref (m + 1), .int (nI (ch)), .int (nI (sv)), .int rs, .ref (m + 2), .ref (m + 3), .ref (m + 4), .ref (m + 5), .ref (m + 6), .int (nI (bm)), .ref (m + 7), .int (nI (dm)), .ref (m + 8), .ref (m + 9), .int (nI (lz)), .ref (m + 10), .int (nI (ty)), .int (nI (he)), .int er, .int ea, .int fa, .ref (m + 11), .int (nI (cn))])) ∧ (∀ a9 : Nat, (a9 < m ∨ m + 1 ≤ a9) → F9 a9 = F a9)) := by
  refine xM_i .int rfl (Nat.le_of_ble_eq_true rfl) (L0 := [some (.ref m), some (.int (nI (i)))]) rfl rfl fun Θ hC hret => ?_
  have hag : ∀ a9 : Nat, (a9 < m ∨ m + 1 ≤ a9) → F a9 = F a9 := fun a9 _ => rfl
  refine x_aload_n hC d_MessageCoderModel_told_0 rfl rfl ?_
  refine x_iconst hC d_MessageCoderModel_told_1 (v := nI 0) (by decide) ?_
  refine x_putf hC kf_MessageCoderModel_51 o0 (Nat.le_of_ble_eq_true rfl) rfl rfl d_MessageCoderModel_told_2 (fs1 := [.int (nI 0), .ref (m + 1), .int (nI (ch)), .int (nI (sv)), .int rs, .ref (m + 2), .ref (m + 3), .ref (m + 4), .ref (m + 5), .ref (m + 6), .int (nI (bm)), .ref (m + 7), .int (nI (dm)), .ref (m + 8), .ref (m + 9), .int (nI (lz)), .ref (m + 10), .int (nI (ty)), .int (nI (he)), .int er, .int ea, .int fa, .ref (m + 11), .int (nI (cn))]) rfl ?_
  generalize e1 : xup F (m) (.inl (10, [.int (nI 0), .ref (m + 1), .int (nI (ch)), .int (nI (sv)), .int rs, .ref (m + 2), .ref (m + 3), .ref (m + 4), .ref (m + 5), .ref (m + 6), .int (nI (bm)), .ref (m + 7), .int (nI (dm)), .ref (m + 8), .ref (m + 9), .int (nI (lz)), .ref (m + 10), .int (nI (ty)), .int (nI (he)), .int er, .int ea, .int fa, .ref (m + 11), .int (nI (cn))])) = F1
  have o0 : F1 (m) = some (.inl (10, [.int (nI 0), .ref (m + 1), .int (nI (ch)), .int (nI (sv)), .int rs, .ref (m + 2), .ref (m + 3), .ref (m + 4), .ref (m + 5), .ref (m + 6), .int (nI (bm)), .ref (m + 7), .int (nI (dm)), .ref (m + 8), .ref (m + 9), .int (nI (lz)), .ref (m + 10), .int (nI (ty)), .int (nI (he)), .int er, .int ea, .int fa, .ref (m + 11), .int (nI (cn))])) := by rw [← e1]; exact xup_eq
  have ga : F1 (m + 1) = some (.inr (0, 4730, fun b9 => .int (nI (g b9)))) := by rw [← e1]; exact (xup_ne (by omega)).trans ga
  have hag : ∀ a9 : Nat, (a9 < m ∨ m + 1 ≤ a9) → F1 a9 = F a9 := fun a9 q0 => by rw [← e1]; exact (xup_ne (by omega)).trans (hag a9 q0)
  refine x_aload_n hC d_MessageCoderModel_told_5 rfl rfl ?_
  refine x_getf hC kf_MessageCoderModel_9 o0 rfl d_MessageCoderModel_told_6 ?_
  refine x_iload_n hC d_MessageCoderModel_told_9 rfl rfl ?_
  refine x_iald hC ga (j := i) ⟨rfl, by omega, by omega⟩ (x := nI (g (i))) rfl d_MessageCoderModel_told_10 ?_
  exact hret _ _ _ _ _ _ _ d_MessageCoderModel_told_11 (by decide) (by decide) rfl (⟨rfl, rfl, o0, hag⟩)

theorem d_MessageCoderModel_copies_0 : decode prog_14_method_4_code 0 = .ok (.iconst 0, 1) := by decide +kernel
theorem d_MessageCoderModel_copies_1 : decode prog_14_method_4_code 1 = .ok (.istore_n 3, 1) := by decide +kernel
theorem d_MessageCoderModel_copies_2 : decode prog_14_method_4_code 2 = .ok (.iload_n 3, 1) := by decide +kernel
theorem d_MessageCoderModel_copies_3 : decode prog_14_method_4_code 3 = .ok (.sipush 430, 3) := by decide +kernel
theorem d_MessageCoderModel_copies_6 : decode prog_14_method_4_code 6 = .ok (.if_icmp .ge 33, 3) := by decide +kernel
theorem d_MessageCoderModel_copies_9 : decode prog_14_method_4_code 9 = .ok (.aload_n 0, 1) := by decide +kernel
theorem d_MessageCoderModel_copies_10 : decode prog_14_method_4_code 10 = .ok (.getfield 9, 3) := by decide +kernel
theorem d_MessageCoderModel_copies_13 : decode prog_14_method_4_code 13 = .ok (.sipush 430, 3) := by decide +kernel
theorem d_MessageCoderModel_copies_16 : decode prog_14_method_4_code 16 = .ok (.iload_n 2, 1) := by decide +kernel
theorem d_MessageCoderModel_copies_17 : decode prog_14_method_4_code 17 = .ok (.imul, 1) := by decide +kernel
theorem d_MessageCoderModel_copies_18 : decode prog_14_method_4_code 18 = .ok (.iload_n 3, 1) := by decide +kernel
theorem d_MessageCoderModel_copies_19 : decode prog_14_method_4_code 19 = .ok (.iadd, 1) := by decide +kernel
theorem d_MessageCoderModel_copies_20 : decode prog_14_method_4_code 20 = .ok (.aload_n 0, 1) := by decide +kernel
theorem d_MessageCoderModel_copies_21 : decode prog_14_method_4_code 21 = .ok (.getfield 9, 3) := by decide +kernel
theorem d_MessageCoderModel_copies_24 : decode prog_14_method_4_code 24 = .ok (.sipush 430, 3) := by decide +kernel
theorem d_MessageCoderModel_copies_27 : decode prog_14_method_4_code 27 = .ok (.iload_n 1, 1) := by decide +kernel
theorem d_MessageCoderModel_copies_28 : decode prog_14_method_4_code 28 = .ok (.imul, 1) := by decide +kernel
theorem d_MessageCoderModel_copies_29 : decode prog_14_method_4_code 29 = .ok (.iload_n 3, 1) := by decide +kernel
theorem d_MessageCoderModel_copies_30 : decode prog_14_method_4_code 30 = .ok (.iadd, 1) := by decide +kernel
theorem d_MessageCoderModel_copies_31 : decode prog_14_method_4_code 31 = .ok (.iaload, 1) := by decide +kernel
theorem d_MessageCoderModel_copies_32 : decode prog_14_method_4_code 32 = .ok (.iastore, 1) := by decide +kernel
theorem d_MessageCoderModel_copies_33 : decode prog_14_method_4_code 33 = .ok (.iinc 3 1, 3) := by decide +kernel
theorem d_MessageCoderModel_copies_36 : decode prog_14_method_4_code 36 = .ok (.goto (-34), 3) := by decide +kernel
theorem d_MessageCoderModel_copies_39 : decode prog_14_method_4_code 39 = .ok (.return_, 1) := by decide +kernel
set_option maxHeartbeats 4000000 in
set_option maxRecDepth 20000 in
theorem c_MessageCoderModel_copies {P : xP} {F : xF} {z : Nat} {m : Nat} {th : Nat} {ch : Nat} {sv : Nat} {rs : Int32} {bm : Nat} {dm : Nat} {lz : Nat} {ty : Nat} {he : Nat} {er : Int32} {ea : Int32} {fa : Int32} {cn : Nat} {g : Nat → Nat} {f : Nat} {t : Nat} (o0 : F (m) = some (.inl (10, [.int (nI (th)), .ref (m + 1), .int (nI (ch)), .int (nI (sv)), .int rs, .ref (m + 2), .ref (m + 3), .ref (m + 4), .ref (m + 5), .ref (m + 6), .int (nI (bm)), .ref (m + 7), .int (nI (dm)), .ref (m + 8), .ref (m + 9), .int (nI (lz)), .ref (m + 10), .int (nI (ty)), .int (nI (he)), .int er, .int ea, .int fa, .ref (m + 11), .int (nI (cn))]))) (ga : F (m + 1) = some (.inr (0, 4730, fun b9 => .int (nI (g b9))))) (hf : f ≤ 10) (ht : t ≤ 10) (hft : f ≠ t) : xM P xy_MessageCoderModel_copies [.ref m, .int (nI (f)), .int (nI (t))] F (z) 0 0 (fun r9 F9 z9 => r9 = none ∧ z9 = z ∧ F9 (m) = some (.inl (10, [.int (nI (th)), .ref (m + 1), .int (nI (ch)), .int (nI (sv)), .int rs, .ref (m + 2), .ref (m + 3), .ref (m + 4), .ref (m + 5), .ref (m + 6), .int (nI (bm)), .ref (m + 7), .int (nI (dm)), .ref (m + 8), .ref (m + 9), .int (nI (lz)), .ref (m + 10), .int (nI (ty)), .int (nI (he)), .int er, .int ea, .int fa, .ref (m + 11), .int (nI (cn))])) ∧ F9 (m + 1) = some (.inr (0, 4730, fun b9 => .int (nI ((cpyR g f t) b9)))) ∧ (∀ a9 : Nat, (a9 < m + 1 ∨ m + 1 + 1 ≤ a9) → F9 a9 = F a9)) := by
  refine xM_v rfl (Nat.le_of_ble_eq_true rfl) (L0 := [some (.ref m), some (.int (nI (f))), some (.int (nI (t))), none]) rfl rfl fun Θ hC hin hret => ?_
  have hag : ∀ a9 : Nat, (a9 < m + 1 ∨ m + 1 + 1 ≤ a9) → F a9 = F a9 := fun a9 _ => rfl
  refine x_iconst hC d_MessageCoderModel_copies_0 (v := nI 0) (by decide) ?_
  have ga : F (m + 1) = some (.inr (0, 4730, fun b9 => .int (nI ((cpyS g f t 0) b9)))) := by rw [cpyS_0]; exact ga
  refine x_istore_n hC d_MessageCoderModel_copies_1 rfl (Nat.le_of_ble_eq_true rfl) (L1 := [some (.ref m), some (.int (nI (f))), some (.int (nI (t))), some (.int (nI 0))]) rfl ?_
  have loop_2 : ∀ (m9 : Nat) (Fh2 : xF) (i : Nat), (Fh2 (m) = some (.inl (10, [.int (nI (th)), .ref (m + 1), .int (nI (ch)), .int (nI (sv)), .int rs, .ref (m + 2), .ref (m + 3), .ref (m + 4), .ref (m + 5), .ref (m + 6), .int (nI (bm)), .ref (m + 7), .int (nI (dm)), .ref (m + 8), .ref (m + 9), .int (nI (lz)), .ref (m + 10), .int (nI (ty)), .int (nI (he)), .int er, .int ea, .int fa, .ref (m + 11), .int (nI (cn))]))) → (Fh2 (m + 1) = some (.inr (0, 4730, fun b9 => .int (nI ((cpyS g f t i) b9))))) → (∀ a9 : Nat, (a9 < m + 1 ∨ m + 1 + 1 ≤ a9) → Fh2 a9 = F a9) → (i ≤ 430) → (430 - i < m9) → xX P Θ 2 [some (.ref m), some (.int (nI (f))), some (.int (nI (t))), some (.int (nI (i)))] [] Fh2 (z) 0 0 := by
    intro m9
    induction m9 with
    | zero => intros; omega
    | succ m9 ih_2 =>
      intro Fh2 i o0 ga hag hi hm_2
      refine x_iload_n hC d_MessageCoderModel_copies_2 rfl rfl ?_
      refine x_sipush hC d_MessageCoderModel_copies_3 (v := nI 430) (by decide) ?_
      refine x_icmpN_ge hC d_MessageCoderModel_copies_6 (tgt := 39) (by decide) (by omega) (by omega) (fun c_6 => ?_) (fun c_6 => ?_)
      · skip
        refine hret _ _ _ _ _ _ d_MessageCoderModel_copies_39 (by decide) (by decide) ?_
        obtain rfl : i = 430 := by omega
        exact ⟨rfl, rfl, o0, ga, hag⟩
      · skip
        refine x_aload_n hC d_MessageCoderModel_copies_9 rfl rfl ?_
        refine x_getf hC kf_MessageCoderModel_9 o0 rfl d_MessageCoderModel_copies_10 ?_
        refine x_sipush hC d_MessageCoderModel_copies_13 (v := nI 430) (by decide) ?_
        refine x_iload_n hC d_MessageCoderModel_copies_16 rfl rfl ?_
        refine x_imul hC d_MessageCoderModel_copies_17 (v := (nI ((430) * (t)))) (pk_mul _ _) ?_
        refine x_iload_n hC d_MessageCoderModel_copies_18 rfl rfl ?_
        refine x_iadd hC d_MessageCoderModel_copies_19 (v := (nI ((430) * (t) + i))) (x_addN (by omega)) ?_
        refine x_aload_n hC d_MessageCoderModel_copies_20 rfl rfl ?_
        refine x_getf hC kf_MessageCoderModel_9 o0 rfl d_MessageCoderModel_copies_21 ?_
        refine x_sipush hC d_MessageCoderModel_copies_24 (v := nI 430) (by decide) ?_
        refine x_iload_n hC d_MessageCoderModel_copies_27 rfl rfl ?_
        refine x_imul hC d_MessageCoderModel_copies_28 (v := (nI ((430) * (f)))) (pk_mul _ _) ?_
        refine x_iload_n hC d_MessageCoderModel_copies_29 rfl rfl ?_
        refine x_iadd hC d_MessageCoderModel_copies_30 (v := (nI ((430) * (f) + i))) (x_addN (by omega)) ?_
        refine x_iald hC ga (j := (430) * (f) + i) ⟨rfl, by omega, by omega⟩ (x := nI (((cpyS g f t i)) ((430) * (f) + i))) rfl d_MessageCoderModel_copies_31 ?_
        refine x_iast hC ga (j := (430) * (t) + i) ⟨rfl, by omega, by omega⟩ d_MessageCoderModel_copies_32 (g1 := fun b9 => nI (updN ((cpyS g f t i)) ((430) * (t) + i) (((cpyS g f t i)) ((430) * (f) + i)) b9)) (x_updN _ _ _) ?_
        generalize egx : updN ((cpyS g f t i)) ((430) * (t) + i) (((cpyS g f t i)) ((430) * (f) + i)) = gx
        generalize e2 : xup Fh2 (m + 1) (.inr (0, 4730, fun b9 => .int (nI (gx b9)))) = F2
        have o0 : F2 (m) = some (.inl (10, [.int (nI (th)), .ref (m + 1), .int (nI (ch)), .int (nI (sv)), .int rs, .ref (m + 2), .ref (m + 3), .ref (m + 4), .ref (m + 5), .ref (m + 6), .int (nI (bm)), .ref (m + 7), .int (nI (dm)), .ref (m + 8), .ref (m + 9), .int (nI (lz)), .ref (m + 10), .int (nI (ty)), .int (nI (he)), .int er, .int ea, .int fa, .ref (m + 11), .int (nI (cn))])) := by rw [← e2]; exact (xup_ne (by omega)).trans o0
        have ga : F2 (m + 1) = some (.inr (0, 4730, fun b9 => .int (nI (gx b9)))) := by rw [← e2]; exact xup_eq
        have hag : ∀ a9 : Nat, (a9 < m + 1 ∨ m + 1 + 1 ≤ a9) → F2 a9 = F a9 := fun a9 q0 => by rw [← e2]; exact (xup_ne (by omega)).trans (hag a9 q0)
        have hgx : gx = cpyS g f t (i + 1) := egx.symm.trans (cpyS_s hft (by omega))
        rw [hgx] at ga
        refine x_iinc hC d_MessageCoderModel_copies_33 rfl (v := (nI (i + 1))) (x_incN 1) (Nat.le_of_ble_eq_true rfl) (L1 := [some (.ref m), some (.int (nI (f))), some (.int (nI (t))), some (.int (nI (i + 1)))]) rfl ?_
        refine x_goto hC d_MessageCoderModel_copies_36 (tgt := 2) (by decide) ?_
        exact ih_2 F2 (i + 1) o0 ga hag (by omega) (by omega)
  exact loop_2 (430 - 0 + 1) F (0) o0 ga hag (by omega) (by omega)

theorem d_MessageCoderModel_begins_0 : decode prog_14_method_5_code 0 = .ok (.aload_n 0, 1) := by decide +kernel
theorem d_MessageCoderModel_begins_1 : decode prog_14_method_5_code 1 = .ok (.iconst 0, 1) := by decide +kernel
theorem d_MessageCoderModel_begins_2 : decode prog_14_method_5_code 2 = .ok (.bipush 10, 2) := by decide +kernel
theorem d_MessageCoderModel_begins_4 : decode prog_14_method_5_code 4 = .ok (.invokevirtual 54, 3) := by decide +kernel
theorem d_MessageCoderModel_begins_7 : decode prog_14_method_5_code 7 = .ok (.return_, 1) := by decide +kernel
set_option maxHeartbeats 4000000 in
set_option maxRecDepth 20000 in
theorem c_MessageCoderModel_begins {P : xP} {F : xF} {z : Nat} {m : Nat} {th : Nat} {ch : Nat} {sv : Nat} {rs : Int32} {bm : Nat} {dm : Nat} {lz : Nat} {ty : Nat} {he : Nat} {er : Int32} {ea : Int32} {fa : Int32} {cn : Nat} {g : Nat → Nat} (o0 : F (m) = some (.inl (10, [.int (nI (th)), .ref (m + 1), .int (nI (ch)), .int (nI (sv)), .int rs, .ref (m + 2), .ref (m + 3), .ref (m + 4), .ref (m + 5), .ref (m + 6), .int (nI (bm)), .ref (m + 7), .int (nI (dm)), .ref (m + 8), .ref (m + 9), .int (nI (lz)), .ref (m + 10), .int (nI (ty)), .int (nI (he)), .int er, .int ea, .int fa, .ref (m + 11), .int (nI (cn))]))) (ga : F (m + 1) = some (.inr (0, 4730, fun b9 => .int (nI (g b9)))))  : xM P xy_MessageCoderModel_begins [.ref m] F (z) 0 0 (fun r9 F9 z9 => r9 = none ∧ z9 = z ∧ F9 (m) = some (.inl (10, [.int (nI (th)), .ref (m + 1), .int (nI (ch)), .int (nI (sv)), .int rs, .ref (m + 2), .ref (m + 3), .ref (m + 4), .ref (m + 5), .ref (m + 6), .int (nI (bm)), .ref (m + 7), .int (nI (dm)), .ref (m + 8), .ref (m + 9), .int (nI (lz)), .ref (m + 10), .int (nI (ty)), .int (nI (he)), .int er, .int ea, .int fa, .ref (m + 11), .int (nI (cn))])) ∧ F9 (m + 1) = some (.inr (0, 4730, fun b9 => .int (nI ((cpyR g 0 10) b9)))) ∧ (∀ a9 : Nat, (a9 < m + 1 ∨ m + 1 + 1 ≤ a9) → F9 a9 = F a9)) := by
  refine xM_v rfl (Nat.le_of_ble_eq_true rfl) (L0 := [some (.ref m)]) rfl rfl fun Θ hC hin hret => ?_
  have hag : ∀ a9 : Nat, (a9 < m + 1 ∨ m + 1 + 1 ≤ a9) → F a9 = F a9 := fun a9 _ => rfl
  refine x_aload_n hC d_MessageCoderModel_begins_0 rfl rfl ?_
  refine x_iconst hC d_MessageCoderModel_begins_1 (v := nI 0) (by decide) ?_
  refine x_bipush hC d_MessageCoderModel_begins_2 (v := nI 10) (by decide) ?_
  refine x_callV hC kv_MessageCoderModel_54 (c_MessageCoderModel_copies (o0 := o0) (ga := ga) (hf := by omega) (ht := by omega) (hft := by omega)) o0 rfl rfl (by decide) rfl rfl rfl (Nat.le_of_ble_eq_true rfl) (by decide) d_MessageCoderModel_begins_4 (fun r9 F9 z9 hp9 => ?_)
  obtain ⟨rfl, h9c, j0, j1, hag9⟩ := hp9
  rw [h9c]
  clear h9c z9
  generalize F9 = F1 at *
  have o0 : F1 (m) = some (.inl (10, [.int (nI (th)), .ref (m + 1), .int (nI (ch)), .int (nI (sv)), .int rs, .ref (m + 2), .ref (m + 3), .ref (m + 4), .ref (m + 5), .ref (m + 6), .int (nI (bm)), .ref (m + 7), .int (nI (dm)), .ref (m + 8), .ref (m + 9), .int (nI (lz)), .ref (m + 10), .int (nI (ty)), .int (nI (he)), .int er, .int ea, .int fa, .ref (m + 11), .int (nI (cn))])) := j0
  have ga : F1 (m + 1) = some (.inr (0, 4730, fun b9 => .int (nI ((cpyR g 0 10) b9)))) := j1
  have hag : ∀ a9 : Nat, (a9 < m + 1 ∨ m + 1 + 1 ≤ a9) → F1 a9 = F a9 := fun a9 q0 => (hag9 a9 (by omega)).trans (hag a9 q0)
  have hg_4 := hag9
  clear hag9
  exact hret _ _ _ _ _ _ d_MessageCoderModel_begins_7 (by decide) (by decide) (⟨rfl, rfl, o0, ga, hag⟩)

