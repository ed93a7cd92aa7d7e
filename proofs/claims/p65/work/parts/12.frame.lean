/-! blocks -/
def bitP (x p : Nat) : Nat := x / 2 ^ (7 - p) % 2
def synN (x : Nat) : Nat → Nat
  | 0 => 0
  | k + 1 => if bitP x (k + 1) = 1 then synN x k ^^^ (k + 1) else synN x k
def syn (x : Nat) : Nat := synN x 7
def corN (x : Nat) : Nat := if syn x = 0 then x else x ^^^ 2 ^ (7 - syn x)
def datN (x : Nat) : Nat := (bitP x 3 * 2 ^ 3) ||| (x % 8)
def blkN (d : Nat) : Nat := [0, 105, 42, 67, 76, 37, 102, 15, 112, 25, 90, 51, 60, 85, 22, 127].getD d 0
def neaN (x : Nat) : Nat → Nat × Nat
  | 0 => (0, 8)
  | k + 1 => if popc (x ^^^ blkN k) < (neaN x k).2 then (k, popc (x ^^^ blkN k)) else neaN x k
def nea (x : Nat) : Nat := (neaN x 16).1
theorem synN_le (x : Nat) : ∀ k, k ≤ 7 → synN x k < 2 ^ 3
  | 0, _ => Nat.two_pow_pos 3
  | k + 1, h => by
    unfold synN
    split
    · exact Nat.xor_lt_two_pow (synN_le x k (by omega)) (by omega)
    · exact synN_le x k (by omega)
theorem syn_le (x : Nat) : syn x ≤ 7 := by have := synN_le x 7 (by omega); unfold syn; omega
theorem cor_lt : ∀ x, x < 128 → corN x < 128 := by decide +kernel
theorem dat_lt : ∀ x, x < 128 → datN x < 16 := by decide +kernel
theorem blk_lt : ∀ d, d < 16 → blkN d < 128 := by decide +kernel
theorem nea_eq : ∀ x, x < 128 → datN (corN x) = nea x := by decide +kernel
theorem neaN_le (x : Nat) : ∀ k, (neaN x k).1 ≤ k ∧ (neaN x k).2 ≤ 8
  | 0 => ⟨Nat.le_refl 0, Nat.le_refl 8⟩
  | k + 1 => by
    have h := neaN_le x k
    have h2 := popc_le (x ^^^ blkN k)
    unfold neaN
    split
    · exact ⟨Nat.le_succ k, by omega⟩
    · exact ⟨by omega, h.2⟩
/-- damaged blocks -/
def dmgN (b : Nat → Nat) : Nat → Nat
  | 0 => 0
  | k + 1 => if syn (b k) = 0 then dmgN b k else dmgN b k + 1
theorem dmgN_le (b : Nat → Nat) : ∀ k, dmgN b k ≤ k
  | 0 => Nat.le_refl 0
  | k + 1 => by
    have h := dmgN_le b k
    unfold dmgN
    split <;> omega
/-- the first symbol with this length and value; 8: none -/
def symI (ln vl : Nat → Nat) (v : Int32) (l : Nat) : Nat → Nat
  | 0 => 8
  | k + 1 => if symI ln vl v l k < 8 then symI ln vl v l k else if ln k = l ∧ nI (vl k) = v then k else 8
theorem symI_le (ln vl : Nat → Nat) (v : Int32) (l : Nat) : ∀ k, k ≤ 8 → symI ln vl v l k ≤ 8
  | 0, _ => Nat.le_refl 8
  | k + 1, h => by
    have h1 := symI_le ln vl v l k (by omega)
    unfold symI
    split
    · omega
    · split <;> omega
theorem symI_first {ln vl : Nat → Nat} {v : Int32} {l i : Nat} (hi : i < 8) (h1 : ln i = l ∧ nI (vl i) = v) (h0 : ∀ j, j < i → ¬ (ln j = l ∧ nI (vl j) = v)) : symI ln vl v l 8 = i := by
  have a : ∀ k, k ≤ i → symI ln vl v l k = 8 := by
    intro k
    induction k with
    | zero => intro _; rfl
    | succ k ih =>
      intro hk
      unfold symI
      rw [ih (by omega), if_neg (by omega), if_neg (h0 k (by omega))]
  have b : ∀ k, i < k → k ≤ 8 → symI ln vl v l k = i := by
    intro k
    induction k with
    | zero => intro h _; omega
    | succ k ih =>
      intro hk hk8
      unfold symI
      by_cases e : i = k
      · subst e
        rw [a i (by omega), if_neg (by omega), if_pos h1]
      · rw [ih (by omega) (by omega), if_pos hi]
  exact b 8 (by omega) (by omega)
theorem symI_none {ln vl : Nat → Nat} {v : Int32} {l : Nat} (h0 : ∀ j, j < 8 → ¬ (ln j = l ∧ nI (vl j) = v)) : ∀ k, k ≤ 8 → symI ln vl v l k = 8
  | 0, _ => rfl
  | k + 1, h => by
    unfold symI
    rw [symI_none h0 k (by omega), if_neg (by omega), if_neg (h0 k (by omega))]
/-- decoding: value, length, signs -/
abbrev dS : Type := Int32 × Nat × Nat × (Nat → Nat)
def decV (v : Int32) (x : Nat) : Int32 := (v <<< (nI 1 &&& 31)) ||| nI x
def decT (ln vl : Nat → Nat) (tn x : Nat) (q : dS) : dS :=
  if q.2.2.1 < tn then
    if symI ln vl (decV q.1 x) (q.2.1 + 1) 8 < 8 then (0, 0, q.2.2.1 + 1, updN q.2.2.2 q.2.2.1 (97 + symI ln vl (decV q.1 x) (q.2.1 + 1) 8))
    else (decV q.1 x, q.2.1 + 1, q.2.2.1, q.2.2.2)
  else q
def datB (b : Nat → Nat) (i : Nat) : Nat := datN (corN (b (i / 4))) / 2 ^ (3 - i % 4) % 2
def decS (ln vl b : Nat → Nat) (tn : Nat) : Nat → dS
  | 0 => (0, 0, 0, fun _ => 0)
  | i + 1 => decT ln vl tn (datB b i) (decS ln vl b tn i)
theorem decS_stop {ln vl b : Nat → Nat} {tn i : Nat} (h : tn ≤ (decS ln vl b tn i).2.2.1) : ∀ k, decS ln vl b tn (i + k) = decS ln vl b tn i
  | 0 => rfl
  | k + 1 => by
    show decT ln vl tn (datB b (i + k)) (decS ln vl b tn (i + k)) = _
    rw [decS_stop h k]
    unfold decT
    rw [if_neg (by omega)]
theorem decS_hit {ln vl b : Nat → Nat} {tn i : Nat} {v : Int32} {l n : Nat} {s : Nat → Nat} (h : decS ln vl b tn i = (v, l, n, s)) (hn : n < tn) (hx : symI ln vl (decV v (datB b i)) (l + 1) 8 < 8) : decS ln vl b tn (i + 1) = (0, 0, n + 1, updN s n (97 + symI ln vl (decV v (datB b i)) (l + 1) 8)) := by
  show decT ln vl tn (datB b i) (decS ln vl b tn i) = _
  rw [h]
  unfold decT
  rw [if_pos hn, if_pos hx]
theorem decS_no {ln vl b : Nat → Nat} {tn i : Nat} {v : Int32} {l n : Nat} {s : Nat → Nat} (h : decS ln vl b tn i = (v, l, n, s)) (hn : n < tn) (hx : ¬ symI ln vl (decV v (datB b i)) (l + 1) 8 < 8) : decS ln vl b tn (i + 1) = (decV v (datB b i), l + 1, n, s) := by
  show decT ln vl tn (datB b i) (decS ln vl b tn i) = _
  rw [h]
  unfold decT
  rw [if_pos hn, if_neg hx]
/-- a frame at r: k blocks b, its text, its code's weights -/
def xFr (F : xF) (r k : Nat) (b : Nat → Nat) (tn : Nat) (ts fw : Nat → Nat) : Prop := F r = some (.inl (2, [.ref (r + 1), .ref (r + 2), .ref (r + 4), .int (nI k)])) ∧ (k ≤ 28 ∧ ∀ j, j < k → b j < 128) ∧ (∃ g : Nat → Nat, F (r + 1) = some (.inr (0, 28, fun b9 => .int (nI (g b9)))) ∧ ∀ j, j < k → g j = b j) ∧ xTx F (r + 2) 16 tn ts ∧ xCd F (r + 4) fw (hLen fw) (hVal (hLen fw)) (hOrd (hLen fw)) (hSum fw)
theorem xFr_fr {F F1 : xF} {r k tn : Nat} {b ts fw : Nat → Nat} (h : xFr F r k b tn ts fw) (hf : ∀ a, r ≤ a → a < r + 11 → F1 a = F a) : xFr F1 r k b tn ts fw := by
  obtain ⟨h0, hk, ⟨g, h1, hg⟩, h2, h4⟩ := h
  exact ⟨(hf _ (by omega) (by omega)).trans h0, hk, ⟨g, (hf _ (by omega) (by omega)).trans h1, hg⟩, xTx_fr h2 (fun a q1 q2 => hf a (by omega) (by omega)), xCd_fr h4 (fun a q1 q2 => hf a (by omega) (by omega))⟩
theorem xFr_ext {F : xF} {r k tn : Nat} {b b2 ts fw : Nat → Nat} (h : xFr F r k b tn ts fw) (hf : ∀ j, j < k → b j = b2 j) : xFr F r k b2 tn ts fw := by
  obtain ⟨h0, hk, ⟨g, h1, hg⟩, h2, h4⟩ := h
  exact ⟨h0, ⟨hk.1, fun j hj => by rw [← hf j hj]; exact hk.2 j hj⟩, ⟨g, h1, fun j hj => (hg j hj).trans (hf j hj)⟩, h2, h4⟩
theorem xbI {p q : Prop} [Decidable p] [Decidable q] (h : p ↔ q) : xb p = xb q := xb_c h

set_option maxHeartbeats 4000000 in
set_option maxRecDepth 20000 in
theorem c_Code_symbolForI {P : xP} {F : xF} {z : Nat} {c : Nat} {w : Nat → Nat} {ln : Nat → Nat} {vl : Nat → Nat} {od : Nat → Nat} {js : Nat} {v : Int32} {l : Nat} (hc : xCd F (c) (w) (ln) (vl) (od) (js)) (hl : l < 2 ^ 31) : xM P xy_Code_symbolFor [.ref c, .int v, .int (nI (l))] F (z) 0 0 (fun r9 F9 z9 => r9 = some (.int (nI (if symI ln vl v l 8 < 8 then 97 + symI ln vl v l 8 else 0))) ∧ F9 = F ∧ z9 = z) := by
  refine xM_i .char rfl (Nat.le_of_ble_eq_true rfl) (L0 := [some (.ref c), some (.int v), some (.int (nI (l))), none]) rfl rfl fun Θ hC hret => ?_
  obtain ⟨h0, ⟨g1, h1, k1⟩, ⟨g2, h2, k2⟩, ⟨g3, h3, k3⟩, ⟨g4, h4, k4⟩, ⟨g5x, g5, h5, k5⟩, ⟨g6x, g6, h6, k6⟩, hbd, hjs⟩ := id hc
  refine x_iconst hC d_Code_symbolFor_0 (v := nI 0) (by decide) ?_
  refine x_istore_n hC d_Code_symbolFor_1 rfl (Nat.le_of_ble_eq_true rfl) (L1 := [some (.ref c), some (.int v), some (.int (nI (l))), some (.int (nI 0))]) rfl ?_
  have loop_2 : ∀ (m9 : Nat) (i : Nat), (F (c) = some (.inl (1, [.ref (c + 1), .ref (c + 2), .ref (c + 3), .ref (c + 4), .ref (c + 5), .ref (c + 6), .int (nI (js))]))) → (F (c + 1) = some (.inr (0, 8, fun b9 => .int (nI (g1 b9))))) → (F (c + 2) = some (.inr (0, 8, fun b9 => .int (nI (g2 b9))))) → (F (c + 3) = some (.inr (0, 8, fun b9 => .int (nI (g3 b9))))) → (F (c + 4) = some (.inr (0, 8, fun b9 => .int (nI (g4 b9))))) → (F (c + 5) = some (.inr (0, 8, fun b9 => .int (nI (g5 b9))))) → (F (c + 6) = some (.inr (0, 8, fun b9 => .int (nI (g6 b9))))) → (i ≤ 8) → (∀ j, j < i → ¬ (ln j = l ∧ nI (vl j) = v)) → (8 - i < m9) → xX P Θ 2 [some (.ref c), some (.int v), some (.int (nI (l))), some (.int (nI (i)))] [] F (z) 0 0 := by
    intro m9
    induction m9 with
    | zero => intros; omega
    | succ m9 ih_2 =>
      intro  i h0 h1 h2 h3 h4 h5 h6 hi kq hm_2
      refine x_iload_n hC d_Code_symbolFor_2 rfl rfl ?_
      refine x_bipush hC d_Code_symbolFor_3 (v := nI 8) (by decide) ?_
      refine x_icmpN_ge hC d_Code_symbolFor_5 (tgt := 40) (by decide) (by omega) (by omega) (fun c_5 => ?_) (fun c_5 => ?_)
      · skip
        refine x_iconst hC d_Code_symbolFor_40 (v := nI 0) (by decide) ?_
        exact hret _ _ _ _ _ _ _ d_Code_symbolFor_41 (by decide) (by decide) rfl (⟨congrArg (fun q => some (Value.int (nI q))) (by rw [symI_none (fun j hj => kq j (by omega)) 8 (by omega)]; rfl), rfl, rfl⟩)
      · skip
        have hb9 := hbd i (by omega)
        have e2 := k2 i (by omega)
        have e3 := k3 i (by omega)
        refine x_aload_n hC d_Code_symbolFor_8 rfl rfl ?_
        refine x_getf hC kf_Code_15 h0 rfl d_Code_symbolFor_9 ?_
        refine x_iload_n hC d_Code_symbolFor_12 rfl rfl ?_
        refine x_iald hC h2 (j := i) ⟨rfl, by omega, by omega⟩ (x := nI (g2 (i))) rfl d_Code_symbolFor_13 ?_
        refine x_iload_n hC d_Code_symbolFor_14 rfl rfl ?_
        refine x_icmpN_ne hC d_Code_symbolFor_15 (tgt := 34) (by decide) (by omega) (by omega) (fun c_15 => ?_) (fun c_15 => ?_)
        · skip
          refine x_iinc hC d_Code_symbolFor_34 rfl (v := (nI (i + 1))) (x_incN 1) (Nat.le_of_ble_eq_true rfl) (L1 := [some (.ref c), some (.int v), some (.int (nI (l))), some (.int (nI (i + 1)))]) rfl ?_
          refine x_goto hC d_Code_symbolFor_37 (tgt := 2) (by decide) ?_
          exact ih_2  (i + 1) h0 h1 h2 h3 h4 h5 h6 (by omega) (fun j hj => (Nat.lt_or_ge j i).elim (kq j) (fun q e => by rw [show j = i by omega] at e; first | exact c_15 (e2.trans e.1) | exact c_25 (by rw [e3]; exact e.2))) (by omega)
        · skip
          refine x_aload_n hC d_Code_symbolFor_18 rfl rfl ?_
          refine x_getf hC kf_Code_18 h0 rfl d_Code_symbolFor_19 ?_
          refine x_iload_n hC d_Code_symbolFor_22 rfl rfl ?_
          refine x_iald hC h3 (j := i) ⟨rfl, by omega, by omega⟩ (x := nI (g3 (i))) rfl d_Code_symbolFor_23 ?_
          refine x_iload_n hC d_Code_symbolFor_24 rfl rfl ?_
          refine x_icmp_ne hC d_Code_symbolFor_25 (tgt := 34) (by decide) (fun c_25 => ?_) (fun c_25 => ?_)
          · skip
            refine x_iinc hC d_Code_symbolFor_34 rfl (v := (nI (i + 1))) (x_incN 1) (Nat.le_of_ble_eq_true rfl) (L1 := [some (.ref c), some (.int v), some (.int (nI (l))), some (.int (nI (i + 1)))]) rfl ?_
            refine x_goto hC d_Code_symbolFor_37 (tgt := 2) (by decide) ?_
            exact ih_2  (i + 1) h0 h1 h2 h3 h4 h5 h6 (by omega) (fun j hj => (Nat.lt_or_ge j i).elim (kq j) (fun q e => by rw [show j = i by omega] at e; first | exact c_15 (e2.trans e.1) | exact c_25 (by rw [e3]; exact e.2))) (by omega)
          · skip
            refine x_bipush hC d_Code_symbolFor_28 (v := nI 97) (by decide) ?_
            refine x_iload_n hC d_Code_symbolFor_30 rfl rfl ?_
            refine x_iadd hC d_Code_symbolFor_31 (v := (nI (97 + i))) (x_addN (by omega)) ?_
            refine x_i2c hC d_Code_symbolFor_32 (v := (nI (97 + i))) (x_i2cN (by omega)) ?_
            exact hret _ _ _ _ _ _ _ d_Code_symbolFor_33 (by decide) (by decide) (x_char _ (by omega)) (⟨congrArg (fun q => some (Value.int (nI q))) (by rw [symI_first (i := i) (by omega) ⟨e2.symm.trans c_15, by rw [← e3]; exact c_25⟩ kq, if_pos (by omega)]), rfl, rfl⟩)
  exact loop_2 (8 - 0 + 1)  (0) h0 h1 h2 h3 h4 h5 h6 (by omega) (fun _ hj => absurd hj (by omega)) (by omega)

theorem d_Frame_maskOf_0 : decode prog_6_method_14_code 0 = .ok (.iconst 1, 1) := by decide +kernel
theorem d_Frame_maskOf_1 : decode prog_6_method_14_code 1 = .ok (.bipush 7, 2) := by decide +kernel
theorem d_Frame_maskOf_3 : decode prog_6_method_14_code 3 = .ok (.iload_n 0, 1) := by decide +kernel
theorem d_Frame_maskOf_4 : decode prog_6_method_14_code 4 = .ok (.isub, 1) := by decide +kernel
theorem d_Frame_maskOf_5 : decode prog_6_method_14_code 5 = .ok (.ishl, 1) := by decide +kernel
theorem d_Frame_maskOf_6 : decode prog_6_method_14_code 6 = .ok (.ireturn, 1) := by decide +kernel
set_option maxHeartbeats 4000000 in
set_option maxRecDepth 20000 in
theorem c_Frame_maskOf {P : xP} {F : xF} {z : Nat} {p : Nat}  (hp : p ≤ 7) : xM P xy_Frame_maskOf [.int (nI (p))] F (z) 0 0 (fun r9 F9 z9 => r9 = some (.int (nI (2 ^ (7 - p)))) ∧ F9 = F ∧ z9 = z) := by
  refine xM_i .int rfl (Nat.le_of_ble_eq_true rfl) (L0 := [some (.int (nI (p)))]) rfl rfl fun Θ hC hret => ?_
  refine x_iconst hC d_Frame_maskOf_0 (v := nI 1) (by decide) ?_
  refine x_bipush hC d_Frame_maskOf_1 (v := nI 7) (by decide) ?_
  refine x_iload_n hC d_Frame_maskOf_3 rfl rfl ?_
  refine x_isub hC d_Frame_maskOf_4 (v := (nI ((7) - (p)))) (pk_sub (by omega)) ?_
  have hp9 : 2 ^ (7 - p) ≤ 2 ^ 7 := Nat.pow_le_pow_right (by omega) (show 7 - p ≤ 7 by omega)
  refine x_ishl hC d_Frame_maskOf_5 (v := (nI (2 ^ (7 - p)))) (x_shlN (7 - p) (by omega) (by omega) (by rw [Nat.one_mul])) ?_
  exact hret _ _ _ _ _ _ _ d_Frame_maskOf_6 (by decide) (by decide) rfl (⟨rfl, rfl, rfl⟩)

theorem d_Frame_bitAtPlace_0 : decode prog_6_method_15_code 0 = .ok (.iload_n 0, 1) := by decide +kernel
theorem d_Frame_bitAtPlace_1 : decode prog_6_method_15_code 1 = .ok (.bipush 7, 2) := by decide +kernel
theorem d_Frame_bitAtPlace_3 : decode prog_6_method_15_code 3 = .ok (.iload_n 1, 1) := by decide +kernel
theorem d_Frame_bitAtPlace_4 : decode prog_6_method_15_code 4 = .ok (.isub, 1) := by decide +kernel
theorem d_Frame_bitAtPlace_5 : decode prog_6_method_15_code 5 = .ok (.ishr, 1) := by decide +kernel
theorem d_Frame_bitAtPlace_6 : decode prog_6_method_15_code 6 = .ok (.iconst 1, 1) := by decide +kernel
theorem d_Frame_bitAtPlace_7 : decode prog_6_method_15_code 7 = .ok (.iand, 1) := by decide +kernel
theorem d_Frame_bitAtPlace_8 : decode prog_6_method_15_code 8 = .ok (.ireturn, 1) := by decide +kernel
set_option maxHeartbeats 4000000 in
set_option maxRecDepth 20000 in
theorem c_Frame_bitAtPlace {P : xP} {F : xF} {z : Nat} {x : Nat} {p : Nat}  (hx : x < 2 ^ 31) (hp : p ≤ 7) : xM P xy_Frame_bitAtPlace [.int (nI (x)), .int (nI (p))] F (z) 0 0 (fun r9 F9 z9 => r9 = some (.int (nI (bitP x p))) ∧ F9 = F ∧ z9 = z) := by
  refine xM_i .int rfl (Nat.le_of_ble_eq_true rfl) (L0 := [some (.int (nI (x))), some (.int (nI (p)))]) rfl rfl fun Θ hC hret => ?_
  refine x_iload_n hC d_Frame_bitAtPlace_0 rfl rfl ?_
  refine x_bipush hC d_Frame_bitAtPlace_1 (v := nI 7) (by decide) ?_
  refine x_iload_n hC d_Frame_bitAtPlace_3 rfl rfl ?_
  refine x_isub hC d_Frame_bitAtPlace_4 (v := (nI ((7) - (p)))) (pk_sub (by omega)) ?_
  refine x_ishr hC d_Frame_bitAtPlace_5 (v := (nI (x / 2 ^ (7 - p)))) (x_shrN (7 - p) (by omega) hx rfl) ?_
  refine x_iconst hC d_Frame_bitAtPlace_6 (v := nI 1) (by decide) ?_
  refine x_iand hC d_Frame_bitAtPlace_7 (v := (nI (x / 2 ^ (7 - p) % 2))) (x_and1 (Nat.lt_of_le_of_lt (Nat.div_le_self _ _) hx)) ?_
  exact hret _ _ _ _ _ _ _ d_Frame_bitAtPlace_8 (by decide) (by decide) rfl (⟨rfl, rfl, rfl⟩)

theorem d_Frame_blockFor_0 : decode prog_6_method_16_code 0 = .ok (.iload_n 0, 1) := by decide +kernel
theorem d_Frame_blockFor_1 : decode prog_6_method_16_code 1 = .ok (.iconst 3, 1) := by decide +kernel
theorem d_Frame_blockFor_2 : decode prog_6_method_16_code 2 = .ok (.ishr, 1) := by decide +kernel
theorem d_Frame_blockFor_3 : decode prog_6_method_16_code 3 = .ok (.iconst 1, 1) := by decide +kernel
theorem d_Frame_blockFor_4 : decode prog_6_method_16_code 4 = .ok (.iand, 1) := by decide +kernel
theorem d_Frame_blockFor_5 : decode prog_6_method_16_code 5 = .ok (.istore_n 1, 1) := by decide +kernel
theorem d_Frame_blockFor_6 : decode prog_6_method_16_code 6 = .ok (.iload_n 0, 1) := by decide +kernel
theorem d_Frame_blockFor_7 : decode prog_6_method_16_code 7 = .ok (.iconst 2, 1) := by decide +kernel
theorem d_Frame_blockFor_8 : decode prog_6_method_16_code 8 = .ok (.ishr, 1) := by decide +kernel
theorem d_Frame_blockFor_9 : decode prog_6_method_16_code 9 = .ok (.iconst 1, 1) := by decide +kernel
theorem d_Frame_blockFor_10 : decode prog_6_method_16_code 10 = .ok (.iand, 1) := by decide +kernel
theorem d_Frame_blockFor_11 : decode prog_6_method_16_code 11 = .ok (.istore_n 2, 1) := by decide +kernel
theorem d_Frame_blockFor_12 : decode prog_6_method_16_code 12 = .ok (.iload_n 0, 1) := by decide +kernel
theorem d_Frame_blockFor_13 : decode prog_6_method_16_code 13 = .ok (.iconst 1, 1) := by decide +kernel
theorem d_Frame_blockFor_14 : decode prog_6_method_16_code 14 = .ok (.ishr, 1) := by decide +kernel
theorem d_Frame_blockFor_15 : decode prog_6_method_16_code 15 = .ok (.iconst 1, 1) := by decide +kernel
theorem d_Frame_blockFor_16 : decode prog_6_method_16_code 16 = .ok (.iand, 1) := by decide +kernel
theorem d_Frame_blockFor_17 : decode prog_6_method_16_code 17 = .ok (.istore_n 3, 1) := by decide +kernel
theorem d_Frame_blockFor_18 : decode prog_6_method_16_code 18 = .ok (.iload_n 0, 1) := by decide +kernel
theorem d_Frame_blockFor_19 : decode prog_6_method_16_code 19 = .ok (.iconst 1, 1) := by decide +kernel
theorem d_Frame_blockFor_20 : decode prog_6_method_16_code 20 = .ok (.iand, 1) := by decide +kernel
theorem d_Frame_blockFor_21 : decode prog_6_method_16_code 21 = .ok (.istore 4, 2) := by decide +kernel
theorem d_Frame_blockFor_23 : decode prog_6_method_16_code 23 = .ok (.iload_n 1, 1) := by decide +kernel
theorem d_Frame_blockFor_24 : decode prog_6_method_16_code 24 = .ok (.iload_n 2, 1) := by decide +kernel
theorem d_Frame_blockFor_25 : decode prog_6_method_16_code 25 = .ok (.ixor, 1) := by decide +kernel
theorem d_Frame_blockFor_26 : decode prog_6_method_16_code 26 = .ok (.iload 4, 2) := by decide +kernel
theorem d_Frame_blockFor_28 : decode prog_6_method_16_code 28 = .ok (.ixor, 1) := by decide +kernel
theorem d_Frame_blockFor_29 : decode prog_6_method_16_code 29 = .ok (.istore 5, 2) := by decide +kernel
theorem d_Frame_blockFor_31 : decode prog_6_method_16_code 31 = .ok (.iload_n 1, 1) := by decide +kernel
theorem d_Frame_blockFor_32 : decode prog_6_method_16_code 32 = .ok (.iload_n 3, 1) := by decide +kernel
theorem d_Frame_blockFor_33 : decode prog_6_method_16_code 33 = .ok (.ixor, 1) := by decide +kernel
theorem d_Frame_blockFor_34 : decode prog_6_method_16_code 34 = .ok (.iload 4, 2) := by decide +kernel
theorem d_Frame_blockFor_36 : decode prog_6_method_16_code 36 = .ok (.ixor, 1) := by decide +kernel
theorem d_Frame_blockFor_37 : decode prog_6_method_16_code 37 = .ok (.istore 6, 2) := by decide +kernel
theorem d_Frame_blockFor_39 : decode prog_6_method_16_code 39 = .ok (.iload_n 2, 1) := by decide +kernel
theorem d_Frame_blockFor_40 : decode prog_6_method_16_code 40 = .ok (.iload_n 3, 1) := by decide +kernel
theorem d_Frame_blockFor_41 : decode prog_6_method_16_code 41 = .ok (.ixor, 1) := by decide +kernel
theorem d_Frame_blockFor_42 : decode prog_6_method_16_code 42 = .ok (.iload 4, 2) := by decide +kernel
theorem d_Frame_blockFor_44 : decode prog_6_method_16_code 44 = .ok (.ixor, 1) := by decide +kernel
theorem d_Frame_blockFor_45 : decode prog_6_method_16_code 45 = .ok (.istore 7, 2) := by decide +kernel
theorem d_Frame_blockFor_47 : decode prog_6_method_16_code 47 = .ok (.iload 5, 2) := by decide +kernel
theorem d_Frame_blockFor_49 : decode prog_6_method_16_code 49 = .ok (.bipush 6, 2) := by decide +kernel
theorem d_Frame_blockFor_51 : decode prog_6_method_16_code 51 = .ok (.ishl, 1) := by decide +kernel
theorem d_Frame_blockFor_52 : decode prog_6_method_16_code 52 = .ok (.iload 6, 2) := by decide +kernel
theorem d_Frame_blockFor_54 : decode prog_6_method_16_code 54 = .ok (.iconst 5, 1) := by decide +kernel
theorem d_Frame_blockFor_55 : decode prog_6_method_16_code 55 = .ok (.ishl, 1) := by decide +kernel
theorem d_Frame_blockFor_56 : decode prog_6_method_16_code 56 = .ok (.ior, 1) := by decide +kernel
theorem d_Frame_blockFor_57 : decode prog_6_method_16_code 57 = .ok (.iload_n 1, 1) := by decide +kernel
theorem d_Frame_blockFor_58 : decode prog_6_method_16_code 58 = .ok (.iconst 4, 1) := by decide +kernel
theorem d_Frame_blockFor_59 : decode prog_6_method_16_code 59 = .ok (.ishl, 1) := by decide +kernel
theorem d_Frame_blockFor_60 : decode prog_6_method_16_code 60 = .ok (.ior, 1) := by decide +kernel
theorem d_Frame_blockFor_61 : decode prog_6_method_16_code 61 = .ok (.iload 7, 2) := by decide +kernel
theorem d_Frame_blockFor_63 : decode prog_6_method_16_code 63 = .ok (.iconst 3, 1) := by decide +kernel
theorem d_Frame_blockFor_64 : decode prog_6_method_16_code 64 = .ok (.ishl, 1) := by decide +kernel
theorem d_Frame_blockFor_65 : decode prog_6_method_16_code 65 = .ok (.ior, 1) := by decide +kernel
theorem d_Frame_blockFor_66 : decode prog_6_method_16_code 66 = .ok (.iload_n 2, 1) := by decide +kernel
theorem d_Frame_blockFor_67 : decode prog_6_method_16_code 67 = .ok (.iconst 2, 1) := by decide +kernel
theorem d_Frame_blockFor_68 : decode prog_6_method_16_code 68 = .ok (.ishl, 1) := by decide +kernel
theorem d_Frame_blockFor_69 : decode prog_6_method_16_code 69 = .ok (.ior, 1) := by decide +kernel
theorem d_Frame_blockFor_70 : decode prog_6_method_16_code 70 = .ok (.iload_n 3, 1) := by decide +kernel
theorem d_Frame_blockFor_71 : decode prog_6_method_16_code 71 = .ok (.iconst 1, 1) := by decide +kernel
theorem d_Frame_blockFor_72 : decode prog_6_method_16_code 72 = .ok (.ishl, 1) := by decide +kernel
theorem d_Frame_blockFor_73 : decode prog_6_method_16_code 73 = .ok (.ior, 1) := by decide +kernel
theorem d_Frame_blockFor_74 : decode prog_6_method_16_code 74 = .ok (.iload 4, 2) := by decide +kernel
theorem d_Frame_blockFor_76 : decode prog_6_method_16_code 76 = .ok (.ior, 1) := by decide +kernel
theorem d_Frame_blockFor_77 : decode prog_6_method_16_code 77 = .ok (.ireturn, 1) := by decide +kernel
set_option maxHeartbeats 4000000 in
set_option maxRecDepth 20000 in
theorem c_Frame_blockFor {P : xP} {F : xF} {z : Nat} {d : Nat}  (hd : d < 16) : xM P xy_Frame_blockFor [.int (nI (d))] F (z) 0 0 (fun r9 F9 z9 => r9 = some (.int (nI (blkN d))) ∧ F9 = F ∧ z9 = z) := by
  refine xM_i .int rfl (Nat.le_of_ble_eq_true rfl) (L0 := [some (.int (nI (d))), none, none, none, none, none, none, none]) rfl rfl fun Θ hC hret => ?_
  refine x_iload_n hC d_Frame_blockFor_0 rfl rfl ?_
  refine x_iconst hC d_Frame_blockFor_1 (v := nI 3) (by decide) ?_
  refine x_ishr hC d_Frame_blockFor_2 (v := ((nI (d)) >>> ((nI (3)) &&& 31))) rfl ?_
  refine x_iconst hC d_Frame_blockFor_3 (v := nI 1) (by decide) ?_
  refine x_iand hC d_Frame_blockFor_4 (v := (((nI (d)) >>> ((nI (3)) &&& 31)) &&& (nI (1)))) rfl ?_
  refine x_istore_n hC d_Frame_blockFor_5 rfl (Nat.le_of_ble_eq_true rfl) (L1 := [some (.int (nI (d))), some (.int (((nI (d)) >>> ((nI (3)) &&& 31)) &&& (nI (1)))), none, none, none, none, none, none]) rfl ?_
  refine x_iload_n hC d_Frame_blockFor_6 rfl rfl ?_
  refine x_iconst hC d_Frame_blockFor_7 (v := nI 2) (by decide) ?_
  refine x_ishr hC d_Frame_blockFor_8 (v := ((nI (d)) >>> ((nI (2)) &&& 31))) rfl ?_
  refine x_iconst hC d_Frame_blockFor_9 (v := nI 1) (by decide) ?_
  refine x_iand hC d_Frame_blockFor_10 (v := (((nI (d)) >>> ((nI (2)) &&& 31)) &&& (nI (1)))) rfl ?_
  refine x_istore_n hC d_Frame_blockFor_11 rfl (Nat.le_of_ble_eq_true rfl) (L1 := [some (.int (nI (d))), some (.int (((nI (d)) >>> ((nI (3)) &&& 31)) &&& (nI (1)))), some (.int (((nI (d)) >>> ((nI (2)) &&& 31)) &&& (nI (1)))), none, none, none, none, none]) rfl ?_
  refine x_iload_n hC d_Frame_blockFor_12 rfl rfl ?_
  refine x_iconst hC d_Frame_blockFor_13 (v := nI 1) (by decide) ?_
  refine x_ishr hC d_Frame_blockFor_14 (v := ((nI (d)) >>> ((nI (1)) &&& 31))) rfl ?_
  refine x_iconst hC d_Frame_blockFor_15 (v := nI 1) (by decide) ?_
  refine x_iand hC d_Frame_blockFor_16 (v := (((nI (d)) >>> ((nI (1)) &&& 31)) &&& (nI (1)))) rfl ?_
  refine x_istore_n hC d_Frame_blockFor_17 rfl (Nat.le_of_ble_eq_true rfl) (L1 := [some (.int (nI (d))), some (.int (((nI (d)) >>> ((nI (3)) &&& 31)) &&& (nI (1)))), some (.int (((nI (d)) >>> ((nI (2)) &&& 31)) &&& (nI (1)))), some (.int (((nI (d)) >>> ((nI (1)) &&& 31)) &&& (nI (1)))), none, none, none, none]) rfl ?_
  refine x_iload_n hC d_Frame_blockFor_18 rfl rfl ?_
  refine x_iconst hC d_Frame_blockFor_19 (v := nI 1) (by decide) ?_
  refine x_iand hC d_Frame_blockFor_20 (v := ((nI (d)) &&& (nI (1)))) rfl ?_
  refine x_istore hC d_Frame_blockFor_21 (Nat.le_of_ble_eq_true rfl) (L1 := [some (.int (nI (d))), some (.int (((nI (d)) >>> ((nI (3)) &&& 31)) &&& (nI (1)))), some (.int (((nI (d)) >>> ((nI (2)) &&& 31)) &&& (nI (1)))), some (.int (((nI (d)) >>> ((nI (1)) &&& 31)) &&& (nI (1)))), some (.int ((nI (d)) &&& (nI (1)))), none, none, none]) rfl ?_
  refine x_iload_n hC d_Frame_blockFor_23 rfl rfl ?_
  refine x_iload_n hC d_Frame_blockFor_24 rfl rfl ?_
  refine x_ixor hC d_Frame_blockFor_25 (v := ((((nI (d)) >>> ((nI (3)) &&& 31)) &&& (nI (1))) ^^^ (((nI (d)) >>> ((nI (2)) &&& 31)) &&& (nI (1))))) rfl ?_
  refine x_iload hC d_Frame_blockFor_26 rfl ?_
  refine x_ixor hC d_Frame_blockFor_28 (v := (((((nI (d)) >>> ((nI (3)) &&& 31)) &&& (nI (1))) ^^^ (((nI (d)) >>> ((nI (2)) &&& 31)) &&& (nI (1)))) ^^^ ((nI (d)) &&& (nI (1))))) rfl ?_
  refine x_istore hC d_Frame_blockFor_29 (Nat.le_of_ble_eq_true rfl) (L1 := [some (.int (nI (d))), some (.int (((nI (d)) >>> ((nI (3)) &&& 31)) &&& (nI (1)))), some (.int (((nI (d)) >>> ((nI (2)) &&& 31)) &&& (nI (1)))), some (.int (((nI (d)) >>> ((nI (1)) &&& 31)) &&& (nI (1)))), some (.int ((nI (d)) &&& (nI (1)))), some (.int (((((nI (d)) >>> ((nI (3)) &&& 31)) &&& (nI (1))) ^^^ (((nI (d)) >>> ((nI (2)) &&& 31)) &&& (nI (1)))) ^^^ ((nI (d)) &&& (nI (1))))), none, none]) rfl ?_
  refine x_iload_n hC d_Frame_blockFor_31 rfl rfl ?_
  refine x_iload_n hC d_Frame_blockFor_32 rfl rfl ?_
  refine x_ixor hC d_Frame_blockFor_33 (v := ((((nI (d)) >>> ((nI (3)) &&& 31)) &&& (nI (1))) ^^^ (((nI (d)) >>> ((nI (1)) &&& 31)) &&& (nI (1))))) rfl ?_
  refine x_iload hC d_Frame_blockFor_34 rfl ?_
  refine x_ixor hC d_Frame_blockFor_36 (v := (((((nI (d)) >>> ((nI (3)) &&& 31)) &&& (nI (1))) ^^^ (((nI (d)) >>> ((nI (1)) &&& 31)) &&& (nI (1)))) ^^^ ((nI (d)) &&& (nI (1))))) rfl ?_
  refine x_istore hC d_Frame_blockFor_37 (Nat.le_of_ble_eq_true rfl) (L1 := [some (.int (nI (d))), some (.int (((nI (d)) >>> ((nI (3)) &&& 31)) &&& (nI (1)))), some (.int (((nI (d)) >>> ((nI (2)) &&& 31)) &&& (nI (1)))), some (.int (((nI (d)) >>> ((nI (1)) &&& 31)) &&& (nI (1)))), some (.int ((nI (d)) &&& (nI (1)))), some (.int (((((nI (d)) >>> ((nI (3)) &&& 31)) &&& (nI (1))) ^^^ (((nI (d)) >>> ((nI (2)) &&& 31)) &&& (nI (1)))) ^^^ ((nI (d)) &&& (nI (1))))), some (.int (((((nI (d)) >>> ((nI (3)) &&& 31)) &&& (nI (1))) ^^^ (((nI (d)) >>> ((nI (1)) &&& 31)) &&& (nI (1)))) ^^^ ((nI (d)) &&& (nI (1))))), none]) rfl ?_
  refine x_iload_n hC d_Frame_blockFor_39 rfl rfl ?_
  refine x_iload_n hC d_Frame_blockFor_40 rfl rfl ?_
  refine x_ixor hC d_Frame_blockFor_41 (v := ((((nI (d)) >>> ((nI (2)) &&& 31)) &&& (nI (1))) ^^^ (((nI (d)) >>> ((nI (1)) &&& 31)) &&& (nI (1))))) rfl ?_
  refine x_iload hC d_Frame_blockFor_42 rfl ?_
  refine x_ixor hC d_Frame_blockFor_44 (v := (((((nI (d)) >>> ((nI (2)) &&& 31)) &&& (nI (1))) ^^^ (((nI (d)) >>> ((nI (1)) &&& 31)) &&& (nI (1)))) ^^^ ((nI (d)) &&& (nI (1))))) rfl ?_
  refine x_istore hC d_Frame_blockFor_45 (Nat.le_of_ble_eq_true rfl) (L1 := [some (.int (nI (d))), some (.int (((nI (d)) >>> ((nI (3)) &&& 31)) &&& (nI (1)))), some (.int (((nI (d)) >>> ((nI (2)) &&& 31)) &&& (nI (1)))), some (.int (((nI (d)) >>> ((nI (1)) &&& 31)) &&& (nI (1)))), some (.int ((nI (d)) &&& (nI (1)))), some (.int (((((nI (d)) >>> ((nI (3)) &&& 31)) &&& (nI (1))) ^^^ (((nI (d)) >>> ((nI (2)) &&& 31)) &&& (nI (1)))) ^^^ ((nI (d)) &&& (nI (1))))), some (.int (((((nI (d)) >>> ((nI (3)) &&& 31)) &&& (nI (1))) ^^^ (((nI (d)) >>> ((nI (1)) &&& 31)) &&& (nI (1)))) ^^^ ((nI (d)) &&& (nI (1))))), some (.int (((((nI (d)) >>> ((nI (2)) &&& 31)) &&& (nI (1))) ^^^ (((nI (d)) >>> ((nI (1)) &&& 31)) &&& (nI (1)))) ^^^ ((nI (d)) &&& (nI (1)))))]) rfl ?_
  refine x_iload hC d_Frame_blockFor_47 rfl ?_
  refine x_bipush hC d_Frame_blockFor_49 (v := nI 6) (by decide) ?_
  refine x_ishl hC d_Frame_blockFor_51 (v := ((((((nI (d)) >>> ((nI (3)) &&& 31)) &&& (nI (1))) ^^^ (((nI (d)) >>> ((nI (2)) &&& 31)) &&& (nI (1)))) ^^^ ((nI (d)) &&& (nI (1)))) <<< ((nI (6)) &&& 31))) rfl ?_
  refine x_iload hC d_Frame_blockFor_52 rfl ?_
  refine x_iconst hC d_Frame_blockFor_54 (v := nI 5) (by decide) ?_
  refine x_ishl hC d_Frame_blockFor_55 (v := ((((((nI (d)) >>> ((nI (3)) &&& 31)) &&& (nI (1))) ^^^ (((nI (d)) >>> ((nI (1)) &&& 31)) &&& (nI (1)))) ^^^ ((nI (d)) &&& (nI (1)))) <<< ((nI (5)) &&& 31))) rfl ?_
  refine x_ior hC d_Frame_blockFor_56 (v := (((((((nI (d)) >>> ((nI (3)) &&& 31)) &&& (nI (1))) ^^^ (((nI (d)) >>> ((nI (2)) &&& 31)) &&& (nI (1)))) ^^^ ((nI (d)) &&& (nI (1)))) <<< ((nI (6)) &&& 31)) ||| ((((((nI (d)) >>> ((nI (3)) &&& 31)) &&& (nI (1))) ^^^ (((nI (d)) >>> ((nI (1)) &&& 31)) &&& (nI (1)))) ^^^ ((nI (d)) &&& (nI (1)))) <<< ((nI (5)) &&& 31)))) rfl ?_
  refine x_iload_n hC d_Frame_blockFor_57 rfl rfl ?_
  refine x_iconst hC d_Frame_blockFor_58 (v := nI 4) (by decide) ?_
  refine x_ishl hC d_Frame_blockFor_59 (v := ((((nI (d)) >>> ((nI (3)) &&& 31)) &&& (nI (1))) <<< ((nI (4)) &&& 31))) rfl ?_
  refine x_ior hC d_Frame_blockFor_60 (v := ((((((((nI (d)) >>> ((nI (3)) &&& 31)) &&& (nI (1))) ^^^ (((nI (d)) >>> ((nI (2)) &&& 31)) &&& (nI (1)))) ^^^ ((nI (d)) &&& (nI (1)))) <<< ((nI (6)) &&& 31)) ||| ((((((nI (d)) >>> ((nI (3)) &&& 31)) &&& (nI (1))) ^^^ (((nI (d)) >>> ((nI (1)) &&& 31)) &&& (nI (1)))) ^^^ ((nI (d)) &&& (nI (1)))) <<< ((nI (5)) &&& 31))) ||| ((((nI (d)) >>> ((nI (3)) &&& 31)) &&& (nI (1))) <<< ((nI (4)) &&& 31)))) rfl ?_
  refine x_iload hC d_Frame_blockFor_61 rfl ?_
  refine x_iconst hC d_Frame_blockFor_63 (v := nI 3) (by decide) ?_
  refine x_ishl hC d_Frame_blockFor_64 (v := ((((((nI (d)) >>> ((nI (2)) &&& 31)) &&& (nI (1))) ^^^ (((nI (d)) >>> ((nI (1)) &&& 31)) &&& (nI (1)))) ^^^ ((nI (d)) &&& (nI (1)))) <<< ((nI (3)) &&& 31))) rfl ?_
  refine x_ior hC d_Frame_blockFor_65 (v := (((((((((nI (d)) >>> ((nI (3)) &&& 31)) &&& (nI (1))) ^^^ (((nI (d)) >>> ((nI (2)) &&& 31)) &&& (nI (1)))) ^^^ ((nI (d)) &&& (nI (1)))) <<< ((nI (6)) &&& 31)) ||| ((((((nI (d)) >>> ((nI (3)) &&& 31)) &&& (nI (1))) ^^^ (((nI (d)) >>> ((nI (1)) &&& 31)) &&& (nI (1)))) ^^^ ((nI (d)) &&& (nI (1)))) <<< ((nI (5)) &&& 31))) ||| ((((nI (d)) >>> ((nI (3)) &&& 31)) &&& (nI (1))) <<< ((nI (4)) &&& 31))) ||| ((((((nI (d)) >>> ((nI (2)) &&& 31)) &&& (nI (1))) ^^^ (((nI (d)) >>> ((nI (1)) &&& 31)) &&& (nI (1)))) ^^^ ((nI (d)) &&& (nI (1)))) <<< ((nI (3)) &&& 31)))) rfl ?_
  refine x_iload_n hC d_Frame_blockFor_66 rfl rfl ?_
  refine x_iconst hC d_Frame_blockFor_67 (v := nI 2) (by decide) ?_
  refine x_ishl hC d_Frame_blockFor_68 (v := ((((nI (d)) >>> ((nI (2)) &&& 31)) &&& (nI (1))) <<< ((nI (2)) &&& 31))) rfl ?_
  refine x_ior hC d_Frame_blockFor_69 (v := ((((((((((nI (d)) >>> ((nI (3)) &&& 31)) &&& (nI (1))) ^^^ (((nI (d)) >>> ((nI (2)) &&& 31)) &&& (nI (1)))) ^^^ ((nI (d)) &&& (nI (1)))) <<< ((nI (6)) &&& 31)) ||| ((((((nI (d)) >>> ((nI (3)) &&& 31)) &&& (nI (1))) ^^^ (((nI (d)) >>> ((nI (1)) &&& 31)) &&& (nI (1)))) ^^^ ((nI (d)) &&& (nI (1)))) <<< ((nI (5)) &&& 31))) ||| ((((nI (d)) >>> ((nI (3)) &&& 31)) &&& (nI (1))) <<< ((nI (4)) &&& 31))) ||| ((((((nI (d)) >>> ((nI (2)) &&& 31)) &&& (nI (1))) ^^^ (((nI (d)) >>> ((nI (1)) &&& 31)) &&& (nI (1)))) ^^^ ((nI (d)) &&& (nI (1)))) <<< ((nI (3)) &&& 31))) ||| ((((nI (d)) >>> ((nI (2)) &&& 31)) &&& (nI (1))) <<< ((nI (2)) &&& 31)))) rfl ?_
  refine x_iload_n hC d_Frame_blockFor_70 rfl rfl ?_
  refine x_iconst hC d_Frame_blockFor_71 (v := nI 1) (by decide) ?_
  refine x_ishl hC d_Frame_blockFor_72 (v := ((((nI (d)) >>> ((nI (1)) &&& 31)) &&& (nI (1))) <<< ((nI (1)) &&& 31))) rfl ?_
  refine x_ior hC d_Frame_blockFor_73 (v := (((((((((((nI (d)) >>> ((nI (3)) &&& 31)) &&& (nI (1))) ^^^ (((nI (d)) >>> ((nI (2)) &&& 31)) &&& (nI (1)))) ^^^ ((nI (d)) &&& (nI (1)))) <<< ((nI (6)) &&& 31)) ||| ((((((nI (d)) >>> ((nI (3)) &&& 31)) &&& (nI (1))) ^^^ (((nI (d)) >>> ((nI (1)) &&& 31)) &&& (nI (1)))) ^^^ ((nI (d)) &&& (nI (1)))) <<< ((nI (5)) &&& 31))) ||| ((((nI (d)) >>> ((nI (3)) &&& 31)) &&& (nI (1))) <<< ((nI (4)) &&& 31))) ||| ((((((nI (d)) >>> ((nI (2)) &&& 31)) &&& (nI (1))) ^^^ (((nI (d)) >>> ((nI (1)) &&& 31)) &&& (nI (1)))) ^^^ ((nI (d)) &&& (nI (1)))) <<< ((nI (3)) &&& 31))) ||| ((((nI (d)) >>> ((nI (2)) &&& 31)) &&& (nI (1))) <<< ((nI (2)) &&& 31))) ||| ((((nI (d)) >>> ((nI (1)) &&& 31)) &&& (nI (1))) <<< ((nI (1)) &&& 31)))) rfl ?_
  refine x_iload hC d_Frame_blockFor_74 rfl ?_
  refine x_ior hC d_Frame_blockFor_76 (v := ((((((((((((nI (d)) >>> ((nI (3)) &&& 31)) &&& (nI (1))) ^^^ (((nI (d)) >>> ((nI (2)) &&& 31)) &&& (nI (1)))) ^^^ ((nI (d)) &&& (nI (1)))) <<< ((nI (6)) &&& 31)) ||| ((((((nI (d)) >>> ((nI (3)) &&& 31)) &&& (nI (1))) ^^^ (((nI (d)) >>> ((nI (1)) &&& 31)) &&& (nI (1)))) ^^^ ((nI (d)) &&& (nI (1)))) <<< ((nI (5)) &&& 31))) ||| ((((nI (d)) >>> ((nI (3)) &&& 31)) &&& (nI (1))) <<< ((nI (4)) &&& 31))) ||| ((((((nI (d)) >>> ((nI (2)) &&& 31)) &&& (nI (1))) ^^^ (((nI (d)) >>> ((nI (1)) &&& 31)) &&& (nI (1)))) ^^^ ((nI (d)) &&& (nI (1)))) <<< ((nI (3)) &&& 31))) ||| ((((nI (d)) >>> ((nI (2)) &&& 31)) &&& (nI (1))) <<< ((nI (2)) &&& 31))) ||| ((((nI (d)) >>> ((nI (1)) &&& 31)) &&& (nI (1))) <<< ((nI (1)) &&& 31))) ||| ((nI (d)) &&& (nI (1))))) rfl ?_
  refine hret _ _ _ _ _ _ _ d_Frame_blockFor_77 (by decide) (by decide) rfl ?_
  refine ⟨congrArg (fun q => some (Value.int q)) ?_, rfl, rfl⟩
  clear hret hC
  revert d
  decide +kernel

theorem d_Frame_dataOf_0 : decode prog_6_method_17_code 0 = .ok (.iload_n 0, 1) := by decide +kernel
theorem d_Frame_dataOf_1 : decode prog_6_method_17_code 1 = .ok (.iconst 3, 1) := by decide +kernel
theorem d_Frame_dataOf_2 : decode prog_6_method_17_code 2 = .ok (.invokestatic 66, 3) := by decide +kernel
theorem d_Frame_dataOf_5 : decode prog_6_method_17_code 5 = .ok (.iconst 3, 1) := by decide +kernel
theorem d_Frame_dataOf_6 : decode prog_6_method_17_code 6 = .ok (.ishl, 1) := by decide +kernel
theorem d_Frame_dataOf_7 : decode prog_6_method_17_code 7 = .ok (.iload_n 0, 1) := by decide +kernel
theorem d_Frame_dataOf_8 : decode prog_6_method_17_code 8 = .ok (.bipush 7, 2) := by decide +kernel
theorem d_Frame_dataOf_10 : decode prog_6_method_17_code 10 = .ok (.iand, 1) := by decide +kernel
theorem d_Frame_dataOf_11 : decode prog_6_method_17_code 11 = .ok (.ior, 1) := by decide +kernel
theorem d_Frame_dataOf_12 : decode prog_6_method_17_code 12 = .ok (.ireturn, 1) := by decide +kernel
set_option maxHeartbeats 4000000 in
set_option maxRecDepth 20000 in
theorem c_Frame_dataOf {P : xP} {F : xF} {z : Nat} {x : Nat}  (hx : x < 128) : xM P xy_Frame_dataOf [.int (nI (x))] F (z) 0 0 (fun r9 F9 z9 => r9 = some (.int (nI (datN x))) ∧ F9 = F ∧ z9 = z) := by
  refine xM_i .int rfl (Nat.le_of_ble_eq_true rfl) (L0 := [some (.int (nI (x)))]) rfl rfl fun Θ hC hret => ?_
  refine x_iload_n hC d_Frame_dataOf_0 rfl rfl ?_
  refine x_iconst hC d_Frame_dataOf_1 (v := nI 3) (by decide) ?_
  refine x_callS hC ks_Frame_66 (c_Frame_bitAtPlace (hx := by omega) (hp := by omega)) (by decide) rfl rfl rfl (Nat.le_of_ble_eq_true rfl) (by decide) d_Frame_dataOf_2 (fun r9 F9 z9 hp9 => ?_)
  obtain ⟨rfl, h9b, h9c⟩ := hp9
  rw [h9b, h9c]
  clear h9b h9c F9 z9
  refine x_iconst hC d_Frame_dataOf_5 (v := nI 3) (by decide) ?_
  have hb2 : bitP x 3 < 2 := Nat.mod_lt _ (by decide)
  refine x_ishl hC d_Frame_dataOf_6 (v := (nI (bitP x 3 * 2 ^ 3))) (x_shlN 3 (by omega) (by omega) rfl) ?_
  refine x_iload_n hC d_Frame_dataOf_7 rfl rfl ?_
  refine x_bipush hC d_Frame_dataOf_8 (v := nI 7) (by decide) ?_
  refine x_iand hC d_Frame_dataOf_10 (v := (nI (x % 8))) (x_and7 (by omega)) ?_
  refine x_ior hC d_Frame_dataOf_11 (v := (nI ((bitP x 3 * 2 ^ 3) ||| (x % 8)))) (x_orN _ _) ?_
  exact hret _ _ _ _ _ _ _ d_Frame_dataOf_12 (by decide) (by decide) rfl (⟨rfl, rfl, rfl⟩)

theorem d_Frame_syndromeFor_0 : decode prog_6_method_18_code 0 = .ok (.iconst 0, 1) := by decide +kernel
theorem d_Frame_syndromeFor_1 : decode prog_6_method_18_code 1 = .ok (.istore_n 1, 1) := by decide +kernel
theorem d_Frame_syndromeFor_2 : decode prog_6_method_18_code 2 = .ok (.iconst 1, 1) := by decide +kernel
theorem d_Frame_syndromeFor_3 : decode prog_6_method_18_code 3 = .ok (.istore_n 2, 1) := by decide +kernel
theorem d_Frame_syndromeFor_4 : decode prog_6_method_18_code 4 = .ok (.iload_n 2, 1) := by decide +kernel
theorem d_Frame_syndromeFor_5 : decode prog_6_method_18_code 5 = .ok (.bipush 7, 2) := by decide +kernel
theorem d_Frame_syndromeFor_7 : decode prog_6_method_18_code 7 = .ok (.if_icmp .gt 22, 3) := by decide +kernel
theorem d_Frame_syndromeFor_10 : decode prog_6_method_18_code 10 = .ok (.iload_n 0, 1) := by decide +kernel
theorem d_Frame_syndromeFor_11 : decode prog_6_method_18_code 11 = .ok (.iload_n 2, 1) := by decide +kernel
theorem d_Frame_syndromeFor_12 : decode prog_6_method_18_code 12 = .ok (.invokestatic 66, 3) := by decide +kernel
theorem d_Frame_syndromeFor_15 : decode prog_6_method_18_code 15 = .ok (.iconst 1, 1) := by decide +kernel
theorem d_Frame_syndromeFor_16 : decode prog_6_method_18_code 16 = .ok (.if_icmp .ne 7, 3) := by decide +kernel
theorem d_Frame_syndromeFor_19 : decode prog_6_method_18_code 19 = .ok (.iload_n 1, 1) := by decide +kernel
theorem d_Frame_syndromeFor_20 : decode prog_6_method_18_code 20 = .ok (.iload_n 2, 1) := by decide +kernel
theorem d_Frame_syndromeFor_21 : decode prog_6_method_18_code 21 = .ok (.ixor, 1) := by decide +kernel
theorem d_Frame_syndromeFor_22 : decode prog_6_method_18_code 22 = .ok (.istore_n 1, 1) := by decide +kernel
theorem d_Frame_syndromeFor_23 : decode prog_6_method_18_code 23 = .ok (.iinc 2 1, 3) := by decide +kernel
theorem d_Frame_syndromeFor_26 : decode prog_6_method_18_code 26 = .ok (.goto (-22), 3) := by decide +kernel
theorem d_Frame_syndromeFor_29 : decode prog_6_method_18_code 29 = .ok (.iload_n 1, 1) := by decide +kernel
theorem d_Frame_syndromeFor_30 : decode prog_6_method_18_code 30 = .ok (.ireturn, 1) := by decide +kernel
set_option maxHeartbeats 4000000 in
set_option maxRecDepth 20000 in
theorem c_Frame_syndromeFor {P : xP} {F : xF} {z : Nat} {x : Nat}  (hx : x < 128) : xM P xy_Frame_syndromeFor [.int (nI (x))] F (z) 0 0 (fun r9 F9 z9 => r9 = some (.int (nI (syn x))) ∧ F9 = F ∧ z9 = z) := by
  refine xM_i .int rfl (Nat.le_of_ble_eq_true rfl) (L0 := [some (.int (nI (x))), none, none]) rfl rfl fun Θ hC hret => ?_
  refine x_iconst hC d_Frame_syndromeFor_0 (v := nI 0) (by decide) ?_
  refine x_istore_n hC d_Frame_syndromeFor_1 rfl (Nat.le_of_ble_eq_true rfl) (L1 := [some (.int (nI (x))), some (.int (nI 0)), none]) rfl ?_
  refine x_iconst hC d_Frame_syndromeFor_2 (v := nI 1) (by decide) ?_
  refine x_istore_n hC d_Frame_syndromeFor_3 rfl (Nat.le_of_ble_eq_true rfl) (L1 := [some (.int (nI (x))), some (.int (nI 0)), some (.int (nI 1))]) rfl ?_
  have loop_4 : ∀ (m9 : Nat) (k : Nat) (r : Nat), (k ≤ 7) → (r = synN x k) → (8 - k < m9) → xX P Θ 4 [some (.int (nI (x))), some (.int (nI (r))), some (.int (nI (k + 1)))] [] F (z) 0 0 := by
    intro m9
    induction m9 with
    | zero => intros; omega
    | succ m9 ih_4 =>
      intro  k r  hk kr hm_4
      have hr8 : r < 2 ^ 3 := by rw [kr]; exact synN_le x k hk
      refine x_iload_n hC d_Frame_syndromeFor_4 rfl rfl ?_
      refine x_bipush hC d_Frame_syndromeFor_5 (v := nI 7) (by decide) ?_
      refine x_icmpN_gt hC d_Frame_syndromeFor_7 (tgt := 29) (by decide) (by omega) (by omega) (fun c_7 => ?_) (fun c_7 => ?_)
      · skip
        refine x_iload_n hC d_Frame_syndromeFor_29 rfl rfl ?_
        refine hret _ _ _ _ _ _ _ d_Frame_syndromeFor_30 (by decide) (by decide) rfl ?_
        obtain rfl : k = 7 := by omega
        exact ⟨by rw [kr]; rfl, rfl, rfl⟩
      · skip
        refine x_iload_n hC d_Frame_syndromeFor_10 rfl rfl ?_
        refine x_iload_n hC d_Frame_syndromeFor_11 rfl rfl ?_
        refine x_callS hC ks_Frame_66 (c_Frame_bitAtPlace (hx := by omega) (hp := by omega)) (by decide) rfl rfl rfl (Nat.le_of_ble_eq_true rfl) (by decide) d_Frame_syndromeFor_12 (fun r9 F9 z9 hp9 => ?_)
        obtain ⟨rfl, h9b, h9c⟩ := hp9
        rw [h9b, h9c]
        clear h9b h9c F9 z9
        refine x_iconst hC d_Frame_syndromeFor_15 (v := nI 1) (by decide) ?_
        have hb2 : bitP x (k + 1) < 2 := Nat.mod_lt _ (by decide)
        refine x_icmpN_ne hC d_Frame_syndromeFor_16 (tgt := 23) (by decide) (by omega) (by omega) (fun c_16 => ?_) (fun c_16 => ?_)
        · skip
          refine x_iinc hC d_Frame_syndromeFor_23 rfl (v := (nI (k + 2))) (x_incN 1) (Nat.le_of_ble_eq_true rfl) (L1 := [some (.int (nI (x))), some (.int (nI (r))), some (.int (nI (k + 2)))]) rfl ?_
          refine x_goto hC d_Frame_syndromeFor_26 (tgt := 4) (by decide) ?_
          exact ih_4  (k + 1) (r)  (by omega) (by first | (rw [synN, ← kr, if_pos c_16]; done) | (rw [synN, ← kr, if_neg c_16])) (by omega)
        · skip
          refine x_iload_n hC d_Frame_syndromeFor_19 rfl rfl ?_
          refine x_iload_n hC d_Frame_syndromeFor_20 rfl rfl ?_
          refine x_ixor hC d_Frame_syndromeFor_21 (v := (nI (r ^^^ (k + 1)))) (x_xorN _ _) ?_
          refine x_istore_n hC d_Frame_syndromeFor_22 rfl (Nat.le_of_ble_eq_true rfl) (L1 := [some (.int (nI (x))), some (.int (nI (r ^^^ (k + 1)))), some (.int (nI (k + 1)))]) rfl ?_
          refine x_iinc hC d_Frame_syndromeFor_23 rfl (v := (nI (k + 2))) (x_incN 1) (Nat.le_of_ble_eq_true rfl) (L1 := [some (.int (nI (x))), some (.int (nI (r ^^^ (k + 1)))), some (.int (nI (k + 2)))]) rfl ?_
          refine x_goto hC d_Frame_syndromeFor_26 (tgt := 4) (by decide) ?_
          exact ih_4  (k + 1) (r ^^^ (k + 1))  (by omega) (by first | (rw [synN, ← kr, if_pos c_16]; done) | (rw [synN, ← kr, if_neg c_16])) (by omega)
  exact loop_4 (8 - 0 + 1)  (0) (0)  (by omega) (rfl) (by omega)

theorem d_Frame_corrected_0 : decode prog_6_method_19_code 0 = .ok (.iload_n 0, 1) := by decide +kernel
theorem d_Frame_corrected_1 : decode prog_6_method_19_code 1 = .ok (.invokestatic 73, 3) := by decide +kernel
theorem d_Frame_corrected_4 : decode prog_6_method_19_code 4 = .ok (.istore_n 1, 1) := by decide +kernel
theorem d_Frame_corrected_5 : decode prog_6_method_19_code 5 = .ok (.iload_n 1, 1) := by decide +kernel
theorem d_Frame_corrected_6 : decode prog_6_method_19_code 6 = .ok (.ifCond .ne 7, 3) := by decide +kernel
theorem d_Frame_corrected_9 : decode prog_6_method_19_code 9 = .ok (.iload_n 0, 1) := by decide +kernel
theorem d_Frame_corrected_10 : decode prog_6_method_19_code 10 = .ok (.goto 9, 3) := by decide +kernel
theorem d_Frame_corrected_13 : decode prog_6_method_19_code 13 = .ok (.iload_n 0, 1) := by decide +kernel
theorem d_Frame_corrected_14 : decode prog_6_method_19_code 14 = .ok (.iload_n 1, 1) := by decide +kernel
theorem d_Frame_corrected_15 : decode prog_6_method_19_code 15 = .ok (.invokestatic 70, 3) := by decide +kernel
theorem d_Frame_corrected_18 : decode prog_6_method_19_code 18 = .ok (.ixor, 1) := by decide +kernel
theorem d_Frame_corrected_19 : decode prog_6_method_19_code 19 = .ok (.ireturn, 1) := by decide +kernel
set_option maxHeartbeats 4000000 in
set_option maxRecDepth 20000 in
theorem c_Frame_corrected {P : xP} {F : xF} {z : Nat} {x : Nat}  (hx : x < 128) : xM P xy_Frame_corrected [.int (nI (x))] F (z) 0 0 (fun r9 F9 z9 => r9 = some (.int (nI (corN x))) ∧ F9 = F ∧ z9 = z) := by
  refine xM_i .int rfl (Nat.le_of_ble_eq_true rfl) (L0 := [some (.int (nI (x))), none]) rfl rfl fun Θ hC hret => ?_
  have hs7 := syn_le x
  refine x_iload_n hC d_Frame_corrected_0 rfl rfl ?_
  refine x_callS hC ks_Frame_73 (c_Frame_syndromeFor (hx := by omega)) (by decide) rfl rfl rfl (Nat.le_of_ble_eq_true rfl) (by decide) d_Frame_corrected_1 (fun r9 F9 z9 hp9 => ?_)
  obtain ⟨rfl, h9b, h9c⟩ := hp9
  rw [h9b, h9c]
  clear h9b h9c F9 z9
  refine x_istore_n hC d_Frame_corrected_4 rfl (Nat.le_of_ble_eq_true rfl) (L1 := [some (.int (nI (x))), some (.int (nI (syn x)))]) rfl ?_
  refine x_iload_n hC d_Frame_corrected_5 rfl rfl ?_
  refine x_ifN_ne hC d_Frame_corrected_6 (tgt := 13) (by decide) (by omega) (fun c_6 => ?_) (fun c_6 => ?_)
  · skip
    refine x_iload_n hC d_Frame_corrected_13 rfl rfl ?_
    refine x_iload_n hC d_Frame_corrected_14 rfl rfl ?_
    refine x_callS hC ks_Frame_70 (c_Frame_maskOf (hp := by omega)) (by decide) rfl rfl rfl (Nat.le_of_ble_eq_true rfl) (by decide) d_Frame_corrected_15 (fun r9 F9 z9 hp9 => ?_)
    obtain ⟨rfl, h9b, h9c⟩ := hp9
    rw [h9b, h9c]
    clear h9b h9c F9 z9
    refine x_ixor hC d_Frame_corrected_18 (v := (nI (x ^^^ 2 ^ (7 - syn x)))) (x_xorN _ _) ?_
    exact hret _ _ _ _ _ _ _ d_Frame_corrected_19 (by decide) (by decide) rfl (⟨congrArg (fun q => some (Value.int (nI q))) (by rw [corN, if_neg (by omega)]), rfl, rfl⟩)
  · skip
    refine x_iload_n hC d_Frame_corrected_9 rfl rfl ?_
    refine x_goto hC d_Frame_corrected_10 (tgt := 19) (by decide) ?_
    exact hret _ _ _ _ _ _ _ d_Frame_corrected_19 (by decide) (by decide) rfl (⟨congrArg (fun q => some (Value.int (nI q))) (by rw [corN, if_pos c_6]), rfl, rfl⟩)

theorem d_Frame_nearestData_0 : decode prog_6_method_20_code 0 = .ok (.iconst 0, 1) := by decide +kernel
theorem d_Frame_nearestData_1 : decode prog_6_method_20_code 1 = .ok (.istore_n 1, 1) := by decide +kernel
theorem d_Frame_nearestData_2 : decode prog_6_method_20_code 2 = .ok (.bipush 8, 2) := by decide +kernel
theorem d_Frame_nearestData_4 : decode prog_6_method_20_code 4 = .ok (.istore_n 2, 1) := by decide +kernel
theorem d_Frame_nearestData_5 : decode prog_6_method_20_code 5 = .ok (.iconst 0, 1) := by decide +kernel
theorem d_Frame_nearestData_6 : decode prog_6_method_20_code 6 = .ok (.istore_n 3, 1) := by decide +kernel
theorem d_Frame_nearestData_7 : decode prog_6_method_20_code 7 = .ok (.iload_n 3, 1) := by decide +kernel
theorem d_Frame_nearestData_8 : decode prog_6_method_20_code 8 = .ok (.bipush 16, 2) := by decide +kernel
theorem d_Frame_nearestData_10 : decode prog_6_method_20_code 10 = .ok (.if_icmp .ge 31, 3) := by decide +kernel
theorem d_Frame_nearestData_13 : decode prog_6_method_20_code 13 = .ok (.iload_n 0, 1) := by decide +kernel
theorem d_Frame_nearestData_14 : decode prog_6_method_20_code 14 = .ok (.iload_n 3, 1) := by decide +kernel
theorem d_Frame_nearestData_15 : decode prog_6_method_20_code 15 = .ok (.invokestatic 55, 3) := by decide +kernel
theorem d_Frame_nearestData_18 : decode prog_6_method_20_code 18 = .ok (.ixor, 1) := by decide +kernel
theorem d_Frame_nearestData_19 : decode prog_6_method_20_code 19 = .ok (.invokestatic 97, 3) := by decide +kernel
theorem d_Frame_nearestData_22 : decode prog_6_method_20_code 22 = .ok (.istore 4, 2) := by decide +kernel
theorem d_Frame_nearestData_24 : decode prog_6_method_20_code 24 = .ok (.iload 4, 2) := by decide +kernel
theorem d_Frame_nearestData_26 : decode prog_6_method_20_code 26 = .ok (.iload_n 2, 1) := by decide +kernel
theorem d_Frame_nearestData_27 : decode prog_6_method_20_code 27 = .ok (.if_icmp .ge 8, 3) := by decide +kernel
theorem d_Frame_nearestData_30 : decode prog_6_method_20_code 30 = .ok (.iload 4, 2) := by decide +kernel
theorem d_Frame_nearestData_32 : decode prog_6_method_20_code 32 = .ok (.istore_n 2, 1) := by decide +kernel
theorem d_Frame_nearestData_33 : decode prog_6_method_20_code 33 = .ok (.iload_n 3, 1) := by decide +kernel
theorem d_Frame_nearestData_34 : decode prog_6_method_20_code 34 = .ok (.istore_n 1, 1) := by decide +kernel
theorem d_Frame_nearestData_35 : decode prog_6_method_20_code 35 = .ok (.iinc 3 1, 3) := by decide +kernel
theorem d_Frame_nearestData_38 : decode prog_6_method_20_code 38 = .ok (.goto (-31), 3) := by decide +kernel
theorem d_Frame_nearestData_41 : decode prog_6_method_20_code 41 = .ok (.iload_n 1, 1) := by decide +kernel
theorem d_Frame_nearestData_42 : decode prog_6_method_20_code 42 = .ok (.ireturn, 1) := by decide +kernel
set_option maxHeartbeats 4000000 in
set_option maxRecDepth 20000 in
theorem c_Frame_nearestData {P : xP} {F : xF} {z : Nat} {x : Nat}  (hx : x < 128) : xM P xy_Frame_nearestData [.int (nI (x))] F (z) 0 0 (fun r9 F9 z9 => r9 = some (.int (nI (nea x))) ∧ F9 = F ∧ z9 = z) := by
  refine xM_i .int rfl (Nat.le_of_ble_eq_true rfl) (L0 := [some (.int (nI (x))), none, none, none, none]) rfl rfl fun Θ hC hret => ?_
  refine x_iconst hC d_Frame_nearestData_0 (v := nI 0) (by decide) ?_
  refine x_istore_n hC d_Frame_nearestData_1 rfl (Nat.le_of_ble_eq_true rfl) (L1 := [some (.int (nI (x))), some (.int (nI 0)), none, none, none]) rfl ?_
  refine x_bipush hC d_Frame_nearestData_2 (v := nI 8) (by decide) ?_
  refine x_istore_n hC d_Frame_nearestData_4 rfl (Nat.le_of_ble_eq_true rfl) (L1 := [some (.int (nI (x))), some (.int (nI 0)), some (.int (nI 8)), none, none]) rfl ?_
  refine x_iconst hC d_Frame_nearestData_5 (v := nI 0) (by decide) ?_
  refine x_istore_n hC d_Frame_nearestData_6 rfl (Nat.le_of_ble_eq_true rfl) (L1 := [some (.int (nI (x))), some (.int (nI 0)), some (.int (nI 8)), some (.int (nI 0)), none]) rfl ?_
  have loop_7 : ∀ (m9 : Nat) (d : Nat) (r : Nat) (w : Nat), (d ≤ 16) → ((r, w) = neaN x d) → (16 - d < m9) → xX P Θ 7 [some (.int (nI (x))), some (.int (nI (r))), some (.int (nI (w))), some (.int (nI (d))), none] [] F (z) 0 0 := by
    intro m9
    induction m9 with
    | zero => intros; omega
    | succ m9 ih_7 =>
      intro  d r w  hd kr hm_7
      have hrw := neaN_le x d
      rw [← kr] at hrw
      have hw8 : w ≤ 8 := hrw.2
      have hr8 : r ≤ d := hrw.1
      refine x_iload_n hC d_Frame_nearestData_7 rfl rfl ?_
      refine x_bipush hC d_Frame_nearestData_8 (v := nI 16) (by decide) ?_
      refine x_icmpN_ge hC d_Frame_nearestData_10 (tgt := 41) (by decide) (by omega) (by omega) (fun c_10 => ?_) (fun c_10 => ?_)
      · skip
        refine x_iload_n hC d_Frame_nearestData_41 rfl rfl ?_
        refine hret _ _ _ _ _ _ _ d_Frame_nearestData_42 (by decide) (by decide) rfl ?_
        obtain rfl : d = 16 := by omega
        exact ⟨by rw [nea, ← kr], rfl, rfl⟩
      · skip
        refine x_iload_n hC d_Frame_nearestData_13 rfl rfl ?_
        refine x_iload_n hC d_Frame_nearestData_14 rfl rfl ?_
        refine x_callS hC ks_Frame_55 (c_Frame_blockFor (hd := by omega)) (by decide) rfl rfl rfl (Nat.le_of_ble_eq_true rfl) (by decide) d_Frame_nearestData_15 (fun r9 F9 z9 hp9 => ?_)
        obtain ⟨rfl, h9b, h9c⟩ := hp9
        rw [h9b, h9c]
        clear h9b h9c F9 z9
        have hb7 := blk_lt d (by omega)
        have hx7 : x ^^^ blkN d < 2 ^ 7 := Nat.xor_lt_two_pow hx hb7
        refine x_ixor hC d_Frame_nearestData_18 (v := (nI (x ^^^ blkN d))) (x_xorN _ _) ?_
        refine x_callS hC ks_Frame_97 (c_Integer_bitCount (ha := by omega)) (by decide) rfl rfl rfl (Nat.le_of_ble_eq_true rfl) (by decide) d_Frame_nearestData_19 (fun r9 F9 z9 hp9 => ?_)
        obtain ⟨rfl, h9b, h9c⟩ := hp9
        rw [h9b, h9c]
        clear h9b h9c F9 z9
        refine x_istore hC d_Frame_nearestData_22 (Nat.le_of_ble_eq_true rfl) (L1 := [some (.int (nI (x))), some (.int (nI (r))), some (.int (nI (w))), some (.int (nI (d))), some (.int (nI (popc (x ^^^ blkN d))))]) rfl ?_
        have hpc := popc_le (x ^^^ blkN d)
        refine x_iload hC d_Frame_nearestData_24 rfl ?_
        refine x_iload_n hC d_Frame_nearestData_26 rfl rfl ?_
        refine x_icmpN_ge hC d_Frame_nearestData_27 (tgt := 35) (by decide) (by omega) (by omega) (fun c_27 => ?_) (fun c_27 => ?_)
        · skip
          refine x_iinc hC d_Frame_nearestData_35 rfl (v := (nI (d + 1))) (x_incN 1) (Nat.le_of_ble_eq_true rfl) (L1 := [some (.int (nI (x))), some (.int (nI (r))), some (.int (nI (w))), some (.int (nI (d + 1))), some (.int (nI (popc (x ^^^ blkN d))))]) rfl ?_
          refine x_goto hC d_Frame_nearestData_38 (tgt := 7) (by decide) ?_
          refine x_forget (L1 := [some (.int (nI (x))), some (.int (nI (r))), some (.int (nI (w))), some (.int (nI (d + 1))), none]) ⟨Or.inr rfl, ⟨Or.inr rfl, ⟨Or.inr rfl, ⟨Or.inr rfl, ⟨Or.inl rfl, trivial⟩⟩⟩⟩⟩ ?_
          exact ih_7  (d + 1) (r) (w)  (by omega) (by first | (rw [neaN, ← kr, if_pos c_27]; done) | (rw [neaN, ← kr, if_neg (Nat.not_lt_of_le c_27)])) (by omega)
        · skip
          refine x_iload hC d_Frame_nearestData_30 rfl ?_
          refine x_istore_n hC d_Frame_nearestData_32 rfl (Nat.le_of_ble_eq_true rfl) (L1 := [some (.int (nI (x))), some (.int (nI (r))), some (.int (nI (popc (x ^^^ blkN d)))), some (.int (nI (d))), some (.int (nI (popc (x ^^^ blkN d))))]) rfl ?_
          refine x_iload_n hC d_Frame_nearestData_33 rfl rfl ?_
          refine x_istore_n hC d_Frame_nearestData_34 rfl (Nat.le_of_ble_eq_true rfl) (L1 := [some (.int (nI (x))), some (.int (nI (d))), some (.int (nI (popc (x ^^^ blkN d)))), some (.int (nI (d))), some (.int (nI (popc (x ^^^ blkN d))))]) rfl ?_
          refine x_iinc hC d_Frame_nearestData_35 rfl (v := (nI (d + 1))) (x_incN 1) (Nat.le_of_ble_eq_true rfl) (L1 := [some (.int (nI (x))), some (.int (nI (d))), some (.int (nI (popc (x ^^^ blkN d)))), some (.int (nI (d + 1))), some (.int (nI (popc (x ^^^ blkN d))))]) rfl ?_
          refine x_goto hC d_Frame_nearestData_38 (tgt := 7) (by decide) ?_
          refine x_forget (L1 := [some (.int (nI (x))), some (.int (nI (d))), some (.int (nI (popc (x ^^^ blkN d)))), some (.int (nI (d + 1))), none]) ⟨Or.inr rfl, ⟨Or.inr rfl, ⟨Or.inr rfl, ⟨Or.inr rfl, ⟨Or.inl rfl, trivial⟩⟩⟩⟩⟩ ?_
          exact ih_7  (d + 1) (d) (popc (x ^^^ blkN d))  (by omega) (by first | (rw [neaN, ← kr, if_pos c_27]; done) | (rw [neaN, ← kr, if_neg (Nat.not_lt_of_le c_27)])) (by omega)
  exact loop_7 (16 - 0 + 1)  (0) (0) (8)  (by omega) (rfl) (by omega)

theorem d_Frame_remove_0 : decode prog_6_method_4_code 0 = .ok (.aload_n 0, 1) := by decide +kernel
theorem d_Frame_remove_1 : decode prog_6_method_4_code 1 = .ok (.iconst 0, 1) := by decide +kernel
theorem d_Frame_remove_2 : decode prog_6_method_4_code 2 = .ok (.putfield 31, 3) := by decide +kernel
theorem d_Frame_remove_5 : decode prog_6_method_4_code 5 = .ok (.return_, 1) := by decide +kernel
set_option maxHeartbeats 4000000 in
set_option maxRecDepth 20000 in
theorem c_Frame_remove {P : xP} {F : xF} {z : Nat} {r : Nat} {k : Nat} {b : Nat → Nat} {tn : Nat} {ts : Nat → Nat} {fw : Nat → Nat} (hr : xFr F (r) (k) (b) (tn) (ts) (fw))  : xM P xy_Frame_remove [.ref r] F (z) 0 0 (fun r9 F9 z9 => r9 = none ∧ z9 = z ∧ xFr F9 (r) (0) (b) (tn) (ts) (fw) ∧ (∀ a9 : Nat, (a9 < r ∨ r + 11 ≤ a9) → F9 a9 = F a9)) := by
  refine xM_v rfl (Nat.le_of_ble_eq_true rfl) (L0 := [some (.ref r)]) rfl rfl fun Θ hC hin hret => ?_
  have hag : ∀ a9 : Nat, (a9 < r ∨ r + 11 ≤ a9) → F a9 = F a9 := fun a9 _ => rfl
  obtain ⟨h0, hk, ⟨g, h1, hg⟩, h2, h4⟩ := id hr
  refine x_aload_n hC d_Frame_remove_0 rfl rfl ?_
  refine x_iconst hC d_Frame_remove_1 (v := nI 0) (by decide) ?_
  refine x_putf hC kf_Frame_31 h0 (Nat.le_of_ble_eq_true rfl) rfl rfl d_Frame_remove_2 (fs1 := [.ref (r + 1), .ref (r + 2), .ref (r + 4), .int (nI 0)]) rfl ?_
  generalize e1 : xup F (r) (.inl (2, [.ref (r + 1), .ref (r + 2), .ref (r + 4), .int (nI 0)])) = F1
  have h0 : F1 (r) = some (.inl (2, [.ref (r + 1), .ref (r + 2), .ref (r + 4), .int (nI 0)])) := by rw [← e1]; exact xup_eq
  have h1 : F1 (r + 1) = some (.inr (0, 28, fun b9 => .int (nI (g b9)))) := by rw [← e1]; exact (xup_ne (by omega)).trans h1
  have h2 : xTx F1 (r + 2) (16) (tn) (ts) := xTx_fr h2 (fun a9 q1 q2 => by rw [← e1]; exact xup_ne (by omega))
  have h4 : xCd F1 (r + 4) (fw) ((hLen fw)) ((hVal (hLen fw))) ((hOrd (hLen fw))) ((hSum fw)) := xCd_fr h4 (fun a9 q1 q2 => by rw [← e1]; exact xup_ne (by omega))
  have hag : ∀ a9 : Nat, (a9 < r ∨ r + 11 ≤ a9) → F1 a9 = F a9 := fun a9 q0 => by rw [← e1]; exact (xup_ne (by omega)).trans (hag a9 q0)
  exact hret _ _ _ _ _ _ d_Frame_remove_5 (by decide) (by decide) (⟨rfl, rfl, ⟨h0, ⟨Nat.zero_le _, fun j hj => absurd hj (by omega)⟩, ⟨g, h1, fun j hj => absurd hj (by omega)⟩, h2, h4⟩, hag⟩)

theorem d_Frame_exists_0 : decode prog_6_method_5_code 0 = .ok (.aload_n 0, 1) := by decide +kernel
theorem d_Frame_exists_1 : decode prog_6_method_5_code 1 = .ok (.getfield 31, 3) := by decide +kernel
theorem d_Frame_exists_4 : decode prog_6_method_5_code 4 = .ok (.ifCond .le 7, 3) := by decide +kernel
theorem d_Frame_exists_7 : decode prog_6_method_5_code 7 = .ok (.iconst 1, 1) := by decide +kernel
theorem d_Frame_exists_8 : decode prog_6_method_5_code 8 = .ok (.goto 4, 3) := by decide +kernel
theorem d_Frame_exists_11 : decode prog_6_method_5_code 11 = .ok (.iconst 0, 1) := by decide +kernel
theorem d_Frame_exists_12 : decode prog_6_method_5_code 12 = .ok (.ireturn, 1) := by decide +kernel
set_option maxHeartbeats 4000000 in
set_option maxRecDepth 20000 in
theorem c_Frame_exists {P : xP} {F : xF} {z : Nat} {r : Nat} {k : Nat} {b : Nat → Nat} {tn : Nat} {ts : Nat → Nat} {fw : Nat → Nat} (hr : xFr F (r) (k) (b) (tn) (ts) (fw))  : xM P xy_Frame_exists [.ref r] F (z) 0 0 (fun r9 F9 z9 => r9 = some (.int (xb (0 < k))) ∧ F9 = F ∧ z9 = z) := by
  refine xM_i .boolean rfl (Nat.le_of_ble_eq_true rfl) (L0 := [some (.ref r)]) rfl rfl fun Θ hC hret => ?_
  obtain ⟨hk28, hb128⟩ := hr.2.1
  refine x_aload_n hC d_Frame_exists_0 rfl rfl ?_
  refine x_getf hC kf_Frame_31 hr.1 rfl d_Frame_exists_1 ?_
  refine x_ifN_le hC d_Frame_exists_4 (tgt := 11) (by decide) (by omega) (fun c_4 => ?_) (fun c_4 => ?_)
  · skip
    refine x_iconst hC d_Frame_exists_11 (v := nI 0) (by decide) ?_
    exact hret _ _ _ _ _ _ _ d_Frame_exists_12 (by decide) (by decide) rfl (⟨congrArg (fun q => some (Value.int q)) (xb_f0 (by omega)), rfl, rfl⟩)
  · skip
    refine x_iconst hC d_Frame_exists_7 (v := nI 1) (by decide) ?_
    refine x_goto hC d_Frame_exists_8 (tgt := 12) (by decide) ?_
    exact hret _ _ _ _ _ _ _ d_Frame_exists_12 (by decide) (by decide) rfl (⟨congrArg (fun q => some (Value.int q)) (xb_t1 (by omega)), rfl, rfl⟩)

theorem d_Frame_bitTotal_0 : decode prog_6_method_6_code 0 = .ok (.aload_n 0, 1) := by decide +kernel
theorem d_Frame_bitTotal_1 : decode prog_6_method_6_code 1 = .ok (.getfield 31, 3) := by decide +kernel
theorem d_Frame_bitTotal_4 : decode prog_6_method_6_code 4 = .ok (.bipush 7, 2) := by decide +kernel
theorem d_Frame_bitTotal_6 : decode prog_6_method_6_code 6 = .ok (.imul, 1) := by decide +kernel
theorem d_Frame_bitTotal_7 : decode prog_6_method_6_code 7 = .ok (.ireturn, 1) := by decide +kernel
set_option maxHeartbeats 4000000 in
set_option maxRecDepth 20000 in
theorem c_Frame_bitTotal {P : xP} {F : xF} {z : Nat} {r : Nat} {k : Nat} {b : Nat → Nat} {tn : Nat} {ts : Nat → Nat} {fw : Nat → Nat} (hr : xFr F (r) (k) (b) (tn) (ts) (fw))  : xM P xy_Frame_bitTotal [.ref r] F (z) 0 0 (fun r9 F9 z9 => r9 = some (.int (nI (k * 7))) ∧ F9 = F ∧ z9 = z) := by
  refine xM_i .int rfl (Nat.le_of_ble_eq_true rfl) (L0 := [some (.ref r)]) rfl rfl fun Θ hC hret => ?_
  obtain ⟨hk28, hb128⟩ := hr.2.1
  refine x_aload_n hC d_Frame_bitTotal_0 rfl rfl ?_
  refine x_getf hC kf_Frame_31 hr.1 rfl d_Frame_bitTotal_1 ?_
  refine x_bipush hC d_Frame_bitTotal_4 (v := nI 7) (by decide) ?_
  refine x_imul hC d_Frame_bitTotal_6 (v := (nI ((k) * (7)))) (pk_mul _ _) ?_
  exact hret _ _ _ _ _ _ _ d_Frame_bitTotal_7 (by decide) (by decide) rfl (⟨rfl, rfl, rfl⟩)

theorem d_Frame_hasBit_0 : decode prog_6_method_7_code 0 = .ok (.iload_n 1, 1) := by decide +kernel
theorem d_Frame_hasBit_1 : decode prog_6_method_7_code 1 = .ok (.ifCond .lt 15, 3) := by decide +kernel
theorem d_Frame_hasBit_4 : decode prog_6_method_7_code 4 = .ok (.iload_n 1, 1) := by decide +kernel
theorem d_Frame_hasBit_5 : decode prog_6_method_7_code 5 = .ok (.aload_n 0, 1) := by decide +kernel
theorem d_Frame_hasBit_6 : decode prog_6_method_7_code 6 = .ok (.invokevirtual 58, 3) := by decide +kernel
theorem d_Frame_hasBit_9 : decode prog_6_method_7_code 9 = .ok (.if_icmp .ge 7, 3) := by decide +kernel
theorem d_Frame_hasBit_12 : decode prog_6_method_7_code 12 = .ok (.iconst 1, 1) := by decide +kernel
theorem d_Frame_hasBit_13 : decode prog_6_method_7_code 13 = .ok (.goto 4, 3) := by decide +kernel
theorem d_Frame_hasBit_16 : decode prog_6_method_7_code 16 = .ok (.iconst 0, 1) := by decide +kernel
theorem d_Frame_hasBit_17 : decode prog_6_method_7_code 17 = .ok (.ireturn, 1) := by decide +kernel
set_option maxHeartbeats 4000000 in
set_option maxRecDepth 20000 in
theorem c_Frame_hasBit {P : xP} {F : xF} {z : Nat} {r : Nat} {k : Nat} {b : Nat → Nat} {tn : Nat} {ts : Nat → Nat} {fw : Nat → Nat} {i : Int32} (hr : xFr F (r) (k) (b) (tn) (ts) (fw))  : xM P xy_Frame_hasBit [.ref r, .int i] F (z) 0 0 (fun r9 F9 z9 => r9 = some (.int (xb (0 ≤ i ∧ i < nI (k * 7)))) ∧ F9 = F ∧ z9 = z) := by
  refine xM_i .boolean rfl (Nat.le_of_ble_eq_true rfl) (L0 := [some (.ref r), some (.int i)]) rfl rfl fun Θ hC hret => ?_
  obtain ⟨hk28, hb128⟩ := hr.2.1
  refine x_iload_n hC d_Frame_hasBit_0 rfl rfl ?_
  refine x_if_lt hC d_Frame_hasBit_1 (tgt := 16) (by decide) (fun c_1 => ?_) (fun c_1 => ?_)
  · skip
    refine x_iconst hC d_Frame_hasBit_16 (v := nI 0) (by decide) ?_
    exact hret _ _ _ _ _ _ _ d_Frame_hasBit_17 (by decide) (by decide) rfl (⟨congrArg (fun q => some (Value.int q)) (xb_f0 (fun h9 => k2_nlt h9.1 c_1)), rfl, rfl⟩)
  · skip
    refine x_iload_n hC d_Frame_hasBit_4 rfl rfl ?_
    refine x_aload_n hC d_Frame_hasBit_5 rfl rfl ?_
    refine x_callV hC kv_Frame_58 (c_Frame_bitTotal (hr := hr)) hr.1 rfl rfl (by decide) rfl rfl rfl (Nat.le_of_ble_eq_true rfl) (by decide) d_Frame_hasBit_6 (fun r9 F9 z9 hp9 => ?_)
    obtain ⟨rfl, h9b, h9c⟩ := hp9
    rw [h9b, h9c]
    clear h9b h9c F9 z9
    refine x_icmp_ge hC d_Frame_hasBit_9 (tgt := 16) (by decide) (fun c_9 => ?_) (fun c_9 => ?_)
    · skip
      refine x_iconst hC d_Frame_hasBit_16 (v := nI 0) (by decide) ?_
      exact hret _ _ _ _ _ _ _ d_Frame_hasBit_17 (by decide) (by decide) rfl (⟨congrArg (fun q => some (Value.int q)) (xb_f0 (fun h9 => k2_nle h9.2 c_9)), rfl, rfl⟩)
    · skip
      refine x_iconst hC d_Frame_hasBit_12 (v := nI 1) (by decide) ?_
      refine x_goto hC d_Frame_hasBit_13 (tgt := 17) (by decide) ?_
      exact hret _ _ _ _ _ _ _ d_Frame_hasBit_17 (by decide) (by decide) rfl (⟨congrArg (fun q => some (Value.int q)) (xb_t1 ⟨k2_le c_1, k2_lt c_9⟩), rfl, rfl⟩)

set_option maxHeartbeats 4000000 in
set_option maxRecDepth 20000 in
theorem c_Frame_hasBitN {P : xP} {F : xF} {z : Nat} {r : Nat} {k : Nat} {b : Nat → Nat} {tn : Nat} {ts : Nat → Nat} {fw : Nat → Nat} {i : Nat} (hr : xFr F (r) (k) (b) (tn) (ts) (fw)) (hi : i < 2 ^ 31) : xM P xy_Frame_hasBit [.ref r, .int (nI (i))] F (z) 0 0 (fun r9 F9 z9 => r9 = some (.int (xb (i < k * 7))) ∧ F9 = F ∧ z9 = z) := by
  refine xM_i .boolean rfl (Nat.le_of_ble_eq_true rfl) (L0 := [some (.ref r), some (.int (nI (i)))]) rfl rfl fun Θ hC hret => ?_
  obtain ⟨hk28, hb128⟩ := hr.2.1
  refine x_iload_n hC d_Frame_hasBit_0 rfl rfl ?_
  refine x_ifN_lt hC d_Frame_hasBit_1 (tgt := 16) (by decide) (by omega) (fun c_1 => ?_) (fun c_1 => ?_)
  · skip
    exact c_1.elim
  · skip
    refine x_iload_n hC d_Frame_hasBit_4 rfl rfl ?_
    refine x_aload_n hC d_Frame_hasBit_5 rfl rfl ?_
    refine x_callV hC kv_Frame_58 (c_Frame_bitTotal (hr := hr)) hr.1 rfl rfl (by decide) rfl rfl rfl (Nat.le_of_ble_eq_true rfl) (by decide) d_Frame_hasBit_6 (fun r9 F9 z9 hp9 => ?_)
    obtain ⟨rfl, h9b, h9c⟩ := hp9
    rw [h9b, h9c]
    clear h9b h9c F9 z9
    refine x_icmpN_ge hC d_Frame_hasBit_9 (tgt := 16) (by decide) (by omega) (by omega) (fun c_9 => ?_) (fun c_9 => ?_)
    · skip
      refine x_iconst hC d_Frame_hasBit_16 (v := nI 0) (by decide) ?_
      exact hret _ _ _ _ _ _ _ d_Frame_hasBit_17 (by decide) (by decide) rfl (⟨congrArg (fun q => some (Value.int q)) (xb_f0 (by omega)), rfl, rfl⟩)
    · skip
      refine x_iconst hC d_Frame_hasBit_12 (v := nI 1) (by decide) ?_
      refine x_goto hC d_Frame_hasBit_13 (tgt := 17) (by decide) ?_
      exact hret _ _ _ _ _ _ _ d_Frame_hasBit_17 (by decide) (by decide) rfl (⟨congrArg (fun q => some (Value.int q)) (xb_t1 (by omega)), rfl, rfl⟩)

theorem d_Frame_hasBlock_0 : decode prog_6_method_8_code 0 = .ok (.iload_n 1, 1) := by decide +kernel
theorem d_Frame_hasBlock_1 : decode prog_6_method_8_code 1 = .ok (.ifCond .lt 15, 3) := by decide +kernel
theorem d_Frame_hasBlock_4 : decode prog_6_method_8_code 4 = .ok (.iload_n 1, 1) := by decide +kernel
theorem d_Frame_hasBlock_5 : decode prog_6_method_8_code 5 = .ok (.aload_n 0, 1) := by decide +kernel
theorem d_Frame_hasBlock_6 : decode prog_6_method_8_code 6 = .ok (.getfield 31, 3) := by decide +kernel
theorem d_Frame_hasBlock_9 : decode prog_6_method_8_code 9 = .ok (.if_icmp .ge 7, 3) := by decide +kernel
theorem d_Frame_hasBlock_12 : decode prog_6_method_8_code 12 = .ok (.iconst 1, 1) := by decide +kernel
theorem d_Frame_hasBlock_13 : decode prog_6_method_8_code 13 = .ok (.goto 4, 3) := by decide +kernel
theorem d_Frame_hasBlock_16 : decode prog_6_method_8_code 16 = .ok (.iconst 0, 1) := by decide +kernel
theorem d_Frame_hasBlock_17 : decode prog_6_method_8_code 17 = .ok (.ireturn, 1) := by decide +kernel
set_option maxHeartbeats 4000000 in
set_option maxRecDepth 20000 in
theorem c_Frame_hasBlock {P : xP} {F : xF} {z : Nat} {r : Nat} {k : Nat} {b : Nat → Nat} {tn : Nat} {ts : Nat → Nat} {fw : Nat → Nat} {i : Int32} (hr : xFr F (r) (k) (b) (tn) (ts) (fw))  : xM P xy_Frame_hasBlock [.ref r, .int i] F (z) 0 0 (fun r9 F9 z9 => r9 = some (.int (xb (0 ≤ i ∧ i < nI k))) ∧ F9 = F ∧ z9 = z) := by
  refine xM_i .boolean rfl (Nat.le_of_ble_eq_true rfl) (L0 := [some (.ref r), some (.int i)]) rfl rfl fun Θ hC hret => ?_
  obtain ⟨hk28, hb128⟩ := hr.2.1
  refine x_iload_n hC d_Frame_hasBlock_0 rfl rfl ?_
  refine x_if_lt hC d_Frame_hasBlock_1 (tgt := 16) (by decide) (fun c_1 => ?_) (fun c_1 => ?_)
  · skip
    refine x_iconst hC d_Frame_hasBlock_16 (v := nI 0) (by decide) ?_
    exact hret _ _ _ _ _ _ _ d_Frame_hasBlock_17 (by decide) (by decide) rfl (⟨congrArg (fun q => some (Value.int q)) (xb_f0 (fun h9 => k2_nlt h9.1 c_1)), rfl, rfl⟩)
  · skip
    refine x_iload_n hC d_Frame_hasBlock_4 rfl rfl ?_
    refine x_aload_n hC d_Frame_hasBlock_5 rfl rfl ?_
    refine x_getf hC kf_Frame_31 hr.1 rfl d_Frame_hasBlock_6 ?_
    refine x_icmp_ge hC d_Frame_hasBlock_9 (tgt := 16) (by decide) (fun c_9 => ?_) (fun c_9 => ?_)
    · skip
      refine x_iconst hC d_Frame_hasBlock_16 (v := nI 0) (by decide) ?_
      exact hret _ _ _ _ _ _ _ d_Frame_hasBlock_17 (by decide) (by decide) rfl (⟨congrArg (fun q => some (Value.int q)) (xb_f0 (fun h9 => k2_nle h9.2 c_9)), rfl, rfl⟩)
    · skip
      refine x_iconst hC d_Frame_hasBlock_12 (v := nI 1) (by decide) ?_
      refine x_goto hC d_Frame_hasBlock_13 (tgt := 17) (by decide) ?_
      exact hret _ _ _ _ _ _ _ d_Frame_hasBlock_17 (by decide) (by decide) rfl (⟨congrArg (fun q => some (Value.int q)) (xb_t1 ⟨k2_le c_1, k2_lt c_9⟩), rfl, rfl⟩)

theorem d_Frame_bit_0 : decode prog_6_method_9_code 0 = .ok (.aload_n 0, 1) := by decide +kernel
theorem d_Frame_bit_1 : decode prog_6_method_9_code 1 = .ok (.iload_n 1, 1) := by decide +kernel
theorem d_Frame_bit_2 : decode prog_6_method_9_code 2 = .ok (.invokevirtual 62, 3) := by decide +kernel
theorem d_Frame_bit_5 : decode prog_6_method_9_code 5 = .ok (.ifCond .eq 24, 3) := by decide +kernel
theorem d_Frame_bit_8 : decode prog_6_method_9_code 8 = .ok (.aload_n 0, 1) := by decide +kernel
theorem d_Frame_bit_9 : decode prog_6_method_9_code 9 = .ok (.getfield 9, 3) := by decide +kernel
theorem d_Frame_bit_12 : decode prog_6_method_9_code 12 = .ok (.iload_n 1, 1) := by decide +kernel
theorem d_Frame_bit_13 : decode prog_6_method_9_code 13 = .ok (.bipush 7, 2) := by decide +kernel
theorem d_Frame_bit_15 : decode prog_6_method_9_code 15 = .ok (.idiv, 1) := by decide +kernel
theorem d_Frame_bit_16 : decode prog_6_method_9_code 16 = .ok (.iaload, 1) := by decide +kernel
theorem d_Frame_bit_17 : decode prog_6_method_9_code 17 = .ok (.iload_n 1, 1) := by decide +kernel
theorem d_Frame_bit_18 : decode prog_6_method_9_code 18 = .ok (.bipush 7, 2) := by decide +kernel
theorem d_Frame_bit_20 : decode prog_6_method_9_code 20 = .ok (.irem, 1) := by decide +kernel
theorem d_Frame_bit_21 : decode prog_6_method_9_code 21 = .ok (.iconst 1, 1) := by decide +kernel
theorem d_Frame_bit_22 : decode prog_6_method_9_code 22 = .ok (.iadd, 1) := by decide +kernel
theorem d_Frame_bit_23 : decode prog_6_method_9_code 23 = .ok (.invokestatic 66, 3) := by decide +kernel
theorem d_Frame_bit_26 : decode prog_6_method_9_code 26 = .ok (.goto 4, 3) := by decide +kernel
theorem d_Frame_bit_29 : decode prog_6_method_9_code 29 = .ok (.iconst 0, 1) := by decide +kernel
theorem d_Frame_bit_30 : decode prog_6_method_9_code 30 = .ok (.ireturn, 1) := by decide +kernel
set_option maxHeartbeats 4000000 in
set_option maxRecDepth 20000 in
theorem c_Frame_bit {P : xP} {F : xF} {z : Nat} {r : Nat} {k : Nat} {b : Nat → Nat} {tn : Nat} {ts : Nat → Nat} {fw : Nat → Nat} {i : Nat} (hr : xFr F (r) (k) (b) (tn) (ts) (fw)) (hi : i < k * 7) : xM P xy_Frame_bit [.ref r, .int (nI (i))] F (z) 0 0 (fun r9 F9 z9 => r9 = some (.int (nI (bitP (b (i / 7)) (i % 7 + 1)))) ∧ F9 = F ∧ z9 = z) := by
  refine xM_i .int rfl (Nat.le_of_ble_eq_true rfl) (L0 := [some (.ref r), some (.int (nI (i)))]) rfl rfl fun Θ hC hret => ?_
  obtain ⟨h0, hk, ⟨g, h1, hg⟩, h2, h4⟩ := id hr
  have hi9 : i / 7 < k := by omega
  have hk28 := hk.1
  refine x_aload_n hC d_Frame_bit_0 rfl rfl ?_
  refine x_iload_n hC d_Frame_bit_1 rfl rfl ?_
  refine x_callV hC kv_Frame_62 (c_Frame_hasBitN (hr := hr) (hi := by omega)) h0 rfl rfl (by decide) rfl rfl rfl (Nat.le_of_ble_eq_true rfl) (by decide) d_Frame_bit_2 (fun r9 F9 z9 hp9 => ?_)
  obtain ⟨rfl, h9b, h9c⟩ := hp9
  rw [h9b, h9c]
  clear h9b h9c F9 z9
  refine x_ifB_eq hC d_Frame_bit_5 (tgt := 29) (by decide) (fun c_5 => ?_) (fun c_5 => ?_)
  · skip
    exact absurd c_5 (by omega)
  · skip
    refine x_aload_n hC d_Frame_bit_8 rfl rfl ?_
    refine x_getf hC kf_Frame_9 h0 rfl d_Frame_bit_9 ?_
    refine x_iload_n hC d_Frame_bit_12 rfl rfl ?_
    refine x_bipush hC d_Frame_bit_13 (v := nI 7) (by decide) ?_
    refine x_idiv hC d_Frame_bit_15 (x_ne0 (by omega) (by omega)) (v := (nI ((i) / (7)))) (pk_div (by omega) (by omega) (by omega)) ?_
    refine x_iald hC h1 (j := (i) / (7)) ⟨rfl, by omega, by omega⟩ (x := nI (g ((i) / (7)))) rfl d_Frame_bit_16 ?_
    refine x_iload_n hC d_Frame_bit_17 rfl rfl ?_
    refine x_bipush hC d_Frame_bit_18 (v := nI 7) (by decide) ?_
    refine x_irem hC d_Frame_bit_20 (x_ne0 (by omega) (by omega)) (v := (nI ((i) % (7)))) (pk_rem (by omega) (by omega) (by omega)) ?_
    refine x_iconst hC d_Frame_bit_21 (v := nI 1) (by decide) ?_
    refine x_iadd hC d_Frame_bit_22 (v := (nI ((i) % (7) + 1))) (x_addN (by omega)) ?_
    have hb9 := hk.2 _ hi9
    refine x_callS hC ks_Frame_66 (c_Frame_bitAtPlace (hx := by rw [hg _ hi9]; omega) (hp := by omega)) (by decide) rfl rfl rfl (Nat.le_of_ble_eq_true rfl) (by decide) d_Frame_bit_23 (fun r9 F9 z9 hp9 => ?_)
    obtain ⟨rfl, h9b, h9c⟩ := hp9
    rw [h9b, h9c]
    clear h9b h9c F9 z9
    refine x_goto hC d_Frame_bit_26 (tgt := 30) (by decide) ?_
    exact hret _ _ _ _ _ _ _ d_Frame_bit_30 (by decide) (by decide) rfl (⟨congrArg (fun q => some (Value.int (nI q))) (by rw [hg _ hi9]), rfl, rfl⟩)

theorem d_Frame_turnBit_0 : decode prog_6_method_10_code 0 = .ok (.aload_n 0, 1) := by decide +kernel
theorem d_Frame_turnBit_1 : decode prog_6_method_10_code 1 = .ok (.iload_n 1, 1) := by decide +kernel
theorem d_Frame_turnBit_2 : decode prog_6_method_10_code 2 = .ok (.invokevirtual 62, 3) := by decide +kernel
theorem d_Frame_turnBit_5 : decode prog_6_method_10_code 5 = .ok (.ifCond .eq 24, 3) := by decide +kernel
theorem d_Frame_turnBit_8 : decode prog_6_method_10_code 8 = .ok (.aload_n 0, 1) := by decide +kernel
theorem d_Frame_turnBit_9 : decode prog_6_method_10_code 9 = .ok (.getfield 9, 3) := by decide +kernel
theorem d_Frame_turnBit_12 : decode prog_6_method_10_code 12 = .ok (.iload_n 1, 1) := by decide +kernel
theorem d_Frame_turnBit_13 : decode prog_6_method_10_code 13 = .ok (.bipush 7, 2) := by decide +kernel
theorem d_Frame_turnBit_15 : decode prog_6_method_10_code 15 = .ok (.idiv, 1) := by decide +kernel
theorem d_Frame_turnBit_16 : decode prog_6_method_10_code 16 = .ok (.dup2, 1) := by decide +kernel
theorem d_Frame_turnBit_17 : decode prog_6_method_10_code 17 = .ok (.iaload, 1) := by decide +kernel
theorem d_Frame_turnBit_18 : decode prog_6_method_10_code 18 = .ok (.iload_n 1, 1) := by decide +kernel
theorem d_Frame_turnBit_19 : decode prog_6_method_10_code 19 = .ok (.bipush 7, 2) := by decide +kernel
theorem d_Frame_turnBit_21 : decode prog_6_method_10_code 21 = .ok (.irem, 1) := by decide +kernel
theorem d_Frame_turnBit_22 : decode prog_6_method_10_code 22 = .ok (.iconst 1, 1) := by decide +kernel
theorem d_Frame_turnBit_23 : decode prog_6_method_10_code 23 = .ok (.iadd, 1) := by decide +kernel
theorem d_Frame_turnBit_24 : decode prog_6_method_10_code 24 = .ok (.invokestatic 70, 3) := by decide +kernel
theorem d_Frame_turnBit_27 : decode prog_6_method_10_code 27 = .ok (.ixor, 1) := by decide +kernel
theorem d_Frame_turnBit_28 : decode prog_6_method_10_code 28 = .ok (.iastore, 1) := by decide +kernel
theorem d_Frame_turnBit_29 : decode prog_6_method_10_code 29 = .ok (.return_, 1) := by decide +kernel
set_option maxHeartbeats 4000000 in
set_option maxRecDepth 20000 in
theorem c_Frame_turnBit {P : xP} {F : xF} {z : Nat} {r : Nat} {k : Nat} {b : Nat → Nat} {tn : Nat} {ts : Nat → Nat} {fw : Nat → Nat} {i : Nat} (hr : xFr F (r) (k) (b) (tn) (ts) (fw)) (hi : i < k * 7) : xM P xy_Frame_turnBit [.ref r, .int (nI (i))] F (z) 0 0 (fun r9 F9 z9 => r9 = none ∧ z9 = z ∧ xFr F9 (r) (k) ((updN b (i / 7) (b (i / 7) ^^^ 2 ^ (7 - (i % 7 + 1))))) (tn) (ts) (fw) ∧ (∀ a9 : Nat, (a9 < r ∨ r + 11 ≤ a9) → F9 a9 = F a9)) := by
  refine xM_v rfl (Nat.le_of_ble_eq_true rfl) (L0 := [some (.ref r), some (.int (nI (i)))]) rfl rfl fun Θ hC hin hret => ?_
  have hag : ∀ a9 : Nat, (a9 < r ∨ r + 11 ≤ a9) → F a9 = F a9 := fun a9 _ => rfl
  obtain ⟨h0, hk, ⟨g, h1, hg⟩, h2, h4⟩ := id hr
  have hi9 : i / 7 < k := by omega
  have hk28 := hk.1
  have hb9 := hk.2 _ hi9
  refine x_aload_n hC d_Frame_turnBit_0 rfl rfl ?_
  refine x_iload_n hC d_Frame_turnBit_1 rfl rfl ?_
  refine x_callV hC kv_Frame_62 (c_Frame_hasBitN (hr := hr) (hi := by omega)) h0 rfl rfl (by decide) rfl rfl rfl (Nat.le_of_ble_eq_true rfl) (by decide) d_Frame_turnBit_2 (fun r9 F9 z9 hp9 => ?_)
  obtain ⟨rfl, h9b, h9c⟩ := hp9
  rw [h9b, h9c]
  clear h9b h9c F9 z9
  refine x_ifB_eq hC d_Frame_turnBit_5 (tgt := 29) (by decide) (fun c_5 => ?_) (fun c_5 => ?_)
  · skip
    exact absurd c_5 (by omega)
  · skip
    refine x_aload_n hC d_Frame_turnBit_8 rfl rfl ?_
    refine x_getf hC kf_Frame_9 h0 rfl d_Frame_turnBit_9 ?_
    refine x_iload_n hC d_Frame_turnBit_12 rfl rfl ?_
    refine x_bipush hC d_Frame_turnBit_13 (v := nI 7) (by decide) ?_
    refine x_idiv hC d_Frame_turnBit_15 (x_ne0 (by omega) (by omega)) (v := (nI ((i) / (7)))) (pk_div (by omega) (by omega) (by omega)) ?_
    refine x_dup2 hC d_Frame_turnBit_16 rfl rfl ?_
    refine x_iald hC h1 (j := (i) / (7)) ⟨rfl, by omega, by omega⟩ (x := nI (g ((i) / (7)))) rfl d_Frame_turnBit_17 ?_
    refine x_iload_n hC d_Frame_turnBit_18 rfl rfl ?_
    refine x_bipush hC d_Frame_turnBit_19 (v := nI 7) (by decide) ?_
    refine x_irem hC d_Frame_turnBit_21 (x_ne0 (by omega) (by omega)) (v := (nI ((i) % (7)))) (pk_rem (by omega) (by omega) (by omega)) ?_
    refine x_iconst hC d_Frame_turnBit_22 (v := nI 1) (by decide) ?_
    refine x_iadd hC d_Frame_turnBit_23 (v := (nI ((i) % (7) + 1))) (x_addN (by omega)) ?_
    refine x_callS hC ks_Frame_70 (c_Frame_maskOf (hp := by omega)) (by decide) rfl rfl rfl (Nat.le_of_ble_eq_true rfl) (by decide) d_Frame_turnBit_24 (fun r9 F9 z9 hp9 => ?_)
    obtain ⟨rfl, h9b, h9c⟩ := hp9
    rw [h9b, h9c]
    clear h9b h9c F9 z9
    refine x_ixor hC d_Frame_turnBit_27 (v := (nI (g (i / 7) ^^^ 2 ^ (7 - (i % 7 + 1))))) (x_xorN _ _) ?_
    refine x_iast hC h1 (j := (i) / (7)) ⟨rfl, by omega, by omega⟩ d_Frame_turnBit_28 (g1 := fun b9 => nI (updN g ((i) / (7)) (g (i / 7) ^^^ 2 ^ (7 - (i % 7 + 1))) b9)) (x_updN _ _ _) ?_
    generalize eq1 : updN g ((i) / (7)) (g (i / 7) ^^^ 2 ^ (7 - (i % 7 + 1))) = q1
    generalize e2 : xup F (r + 1) (.inr (0, 28, fun b9 => .int (nI (q1 b9)))) = F2
    have h0 : F2 (r) = some (.inl (2, [.ref (r + 1), .ref (r + 2), .ref (r + 4), .int (nI (k))])) := by rw [← e2]; exact (xup_ne (by omega)).trans h0
    have h1 : F2 (r + 1) = some (.inr (0, 28, fun b9 => .int (nI (q1 b9)))) := by rw [← e2]; exact xup_eq
    have h2 : xTx F2 (r + 2) (16) (tn) (ts) := xTx_fr h2 (fun a9 q1 q2 => by rw [← e2]; exact xup_ne (by omega))
    have h4 : xCd F2 (r + 4) (fw) ((hLen fw)) ((hVal (hLen fw))) ((hOrd (hLen fw))) ((hSum fw)) := xCd_fr h4 (fun a9 q1 q2 => by rw [← e2]; exact xup_ne (by omega))
    have hag : ∀ a9 : Nat, (a9 < r ∨ r + 11 ≤ a9) → F2 a9 = F a9 := fun a9 q0 => by rw [← e2]; exact (xup_ne (by omega)).trans (hag a9 q0)
    refine hret _ _ _ _ _ _ d_Frame_turnBit_29 (by decide) (by decide) ?_
    have hx7 : b (i / 7) ^^^ 2 ^ (7 - (i % 7 + 1)) < 2 ^ 7 := Nat.xor_lt_two_pow hb9 (Nat.pow_lt_pow_right (by decide) (by omega))
    exact ⟨rfl, rfl, ⟨h0, ⟨hk.1, fun j hj => (Decidable.em (j = i / 7)).elim (fun q => by rw [q, updN_eq]; exact hx7) (fun q => by rw [updN_ne q]; exact hk.2 j hj)⟩, ⟨q1, h1, fun j hj => (Decidable.em (j = i / 7)).elim (fun q => by rw [← eq1, q, updN_eq, updN_eq, hg _ hi9]) (fun q => by rw [← eq1, updN_ne q, updN_ne q]; exact hg j hj)⟩, h2, h4⟩, hag⟩

theorem d_Frame_damaged_0 : decode prog_6_method_11_code 0 = .ok (.iconst 0, 1) := by decide +kernel
theorem d_Frame_damaged_1 : decode prog_6_method_11_code 1 = .ok (.istore_n 1, 1) := by decide +kernel
theorem d_Frame_damaged_2 : decode prog_6_method_11_code 2 = .ok (.iconst 0, 1) := by decide +kernel
theorem d_Frame_damaged_3 : decode prog_6_method_11_code 3 = .ok (.istore_n 2, 1) := by decide +kernel
theorem d_Frame_damaged_4 : decode prog_6_method_11_code 4 = .ok (.iload_n 2, 1) := by decide +kernel
theorem d_Frame_damaged_5 : decode prog_6_method_11_code 5 = .ok (.aload_n 0, 1) := by decide +kernel
theorem d_Frame_damaged_6 : decode prog_6_method_11_code 6 = .ok (.getfield 31, 3) := by decide +kernel
theorem d_Frame_damaged_9 : decode prog_6_method_11_code 9 = .ok (.if_icmp .ge 24, 3) := by decide +kernel
theorem d_Frame_damaged_12 : decode prog_6_method_11_code 12 = .ok (.aload_n 0, 1) := by decide +kernel
theorem d_Frame_damaged_13 : decode prog_6_method_11_code 13 = .ok (.getfield 9, 3) := by decide +kernel
theorem d_Frame_damaged_16 : decode prog_6_method_11_code 16 = .ok (.iload_n 2, 1) := by decide +kernel
theorem d_Frame_damaged_17 : decode prog_6_method_11_code 17 = .ok (.iaload, 1) := by decide +kernel
theorem d_Frame_damaged_18 : decode prog_6_method_11_code 18 = .ok (.invokestatic 73, 3) := by decide +kernel
theorem d_Frame_damaged_21 : decode prog_6_method_11_code 21 = .ok (.ifCond .eq 6, 3) := by decide +kernel
theorem d_Frame_damaged_24 : decode prog_6_method_11_code 24 = .ok (.iinc 1 1, 3) := by decide +kernel
theorem d_Frame_damaged_27 : decode prog_6_method_11_code 27 = .ok (.iinc 2 1, 3) := by decide +kernel
theorem d_Frame_damaged_30 : decode prog_6_method_11_code 30 = .ok (.goto (-26), 3) := by decide +kernel
theorem d_Frame_damaged_33 : decode prog_6_method_11_code 33 = .ok (.iload_n 1, 1) := by decide +kernel
theorem d_Frame_damaged_34 : decode prog_6_method_11_code 34 = .ok (.ireturn, 1) := by decide +kernel
set_option maxHeartbeats 4000000 in
set_option maxRecDepth 20000 in
theorem c_Frame_damaged {P : xP} {F : xF} {z : Nat} {r : Nat} {k : Nat} {b : Nat → Nat} {tn : Nat} {ts : Nat → Nat} {fw : Nat → Nat} (hr : xFr F (r) (k) (b) (tn) (ts) (fw))  : xM P xy_Frame_damaged [.ref r] F (z) 0 0 (fun r9 F9 z9 => r9 = some (.int (nI (dmgN b k))) ∧ F9 = F ∧ z9 = z) := by
  refine xM_i .int rfl (Nat.le_of_ble_eq_true rfl) (L0 := [some (.ref r), none, none]) rfl rfl fun Θ hC hret => ?_
  obtain ⟨h0, hk, ⟨g, h1, hg⟩, h2, h4⟩ := id hr
  have hk28 := hk.1
  refine x_iconst hC d_Frame_damaged_0 (v := nI 0) (by decide) ?_
  refine x_istore_n hC d_Frame_damaged_1 rfl (Nat.le_of_ble_eq_true rfl) (L1 := [some (.ref r), some (.int (nI 0)), none]) rfl ?_
  refine x_iconst hC d_Frame_damaged_2 (v := nI 0) (by decide) ?_
  refine x_istore_n hC d_Frame_damaged_3 rfl (Nat.le_of_ble_eq_true rfl) (L1 := [some (.ref r), some (.int (nI 0)), some (.int (nI 0))]) rfl ?_
  have loop_4 : ∀ (m9 : Nat) (i : Nat) (q : Nat), (F (r) = some (.inl (2, [.ref (r + 1), .ref (r + 2), .ref (r + 4), .int (nI (k))]))) → (F (r + 1) = some (.inr (0, 28, fun b9 => .int (nI (g b9))))) → (xTx F (r + 2) (16) (tn) (ts)) → (xCd F (r + 4) (fw) ((hLen fw)) ((hVal (hLen fw))) ((hOrd (hLen fw))) ((hSum fw))) → (i ≤ k) → (q = dmgN b i) → (k - i < m9) → xX P Θ 4 [some (.ref r), some (.int (nI (q))), some (.int (nI (i)))] [] F (z) 0 0 := by
    intro m9
    induction m9 with
    | zero => intros; omega
    | succ m9 ih_4 =>
      intro  i q h0 h1 h2 h4 hi kr hm_4
      have hq9 : q ≤ i := by rw [kr]; exact dmgN_le b i
      refine x_iload_n hC d_Frame_damaged_4 rfl rfl ?_
      refine x_aload_n hC d_Frame_damaged_5 rfl rfl ?_
      refine x_getf hC kf_Frame_31 h0 rfl d_Frame_damaged_6 ?_
      refine x_icmpN_ge hC d_Frame_damaged_9 (tgt := 33) (by decide) (by omega) (by omega) (fun c_9 => ?_) (fun c_9 => ?_)
      · skip
        refine x_iload_n hC d_Frame_damaged_33 rfl rfl ?_
        exact hret _ _ _ _ _ _ _ d_Frame_damaged_34 (by decide) (by decide) rfl (⟨by rw [kr, show i = k by omega], rfl, rfl⟩)
      · skip
        refine x_aload_n hC d_Frame_damaged_12 rfl rfl ?_
        refine x_getf hC kf_Frame_9 h0 rfl d_Frame_damaged_13 ?_
        refine x_iload_n hC d_Frame_damaged_16 rfl rfl ?_
        refine x_iald hC h1 (j := i) ⟨rfl, by omega, by omega⟩ (x := nI (g (i))) rfl d_Frame_damaged_17 ?_
        have hb9 := hk.2 i (by omega)
        have hg9 := hg i (by omega)
        refine x_callS hC ks_Frame_73 (c_Frame_syndromeFor (hx := by rw [hg9]; exact hb9)) (by decide) rfl rfl rfl (Nat.le_of_ble_eq_true rfl) (by decide) d_Frame_damaged_18 (fun r9 F9 z9 hp9 => ?_)
        obtain ⟨rfl, h9b, h9c⟩ := hp9
        rw [h9b, h9c]
        clear h9b h9c F9 z9
        have hs7 := syn_le (g i)
        refine x_ifN_eq hC d_Frame_damaged_21 (tgt := 27) (by decide) (by omega) (fun c_21 => ?_) (fun c_21 => ?_)
        · skip
          refine x_iinc hC d_Frame_damaged_27 rfl (v := (nI (i + 1))) (x_incN 1) (Nat.le_of_ble_eq_true rfl) (L1 := [some (.ref r), some (.int (nI (q))), some (.int (nI (i + 1)))]) rfl ?_
          refine x_goto hC d_Frame_damaged_30 (tgt := 4) (by decide) ?_
          exact ih_4  (i + 1) (q) h0 h1 h2 h4 (by omega) (by rw [kr, dmgN, ← hg9]; first | (rw [if_pos c_21]; done) | (rw [if_neg (by omega)])) (by omega)
        · skip
          refine x_iinc hC d_Frame_damaged_24 rfl (v := (nI (q + 1))) (x_incN 1) (Nat.le_of_ble_eq_true rfl) (L1 := [some (.ref r), some (.int (nI (q + 1))), some (.int (nI (i)))]) rfl ?_
          refine x_iinc hC d_Frame_damaged_27 rfl (v := (nI (i + 1))) (x_incN 1) (Nat.le_of_ble_eq_true rfl) (L1 := [some (.ref r), some (.int (nI (q + 1))), some (.int (nI (i + 1)))]) rfl ?_
          refine x_goto hC d_Frame_damaged_30 (tgt := 4) (by decide) ?_
          exact ih_4  (i + 1) (q + 1) h0 h1 h2 h4 (by omega) (by rw [kr, dmgN, ← hg9]; first | (rw [if_pos c_21]; done) | (rw [if_neg (by omega)])) (by omega)
  exact loop_4 (k - 0 + 1)  (0) (0) h0 h1 h2 h4 (by omega) (rfl) (by omega)

theorem d_Frame_correctionsAgree_0 : decode prog_6_method_12_code 0 = .ok (.iconst 0, 1) := by decide +kernel
theorem d_Frame_correctionsAgree_1 : decode prog_6_method_12_code 1 = .ok (.istore_n 1, 1) := by decide +kernel
theorem d_Frame_correctionsAgree_2 : decode prog_6_method_12_code 2 = .ok (.iload_n 1, 1) := by decide +kernel
theorem d_Frame_correctionsAgree_3 : decode prog_6_method_12_code 3 = .ok (.aload_n 0, 1) := by decide +kernel
theorem d_Frame_correctionsAgree_4 : decode prog_6_method_12_code 4 = .ok (.getfield 31, 3) := by decide +kernel
theorem d_Frame_correctionsAgree_7 : decode prog_6_method_12_code 7 = .ok (.if_icmp .ge 35, 3) := by decide +kernel
theorem d_Frame_correctionsAgree_10 : decode prog_6_method_12_code 10 = .ok (.aload_n 0, 1) := by decide +kernel
theorem d_Frame_correctionsAgree_11 : decode prog_6_method_12_code 11 = .ok (.getfield 9, 3) := by decide +kernel
theorem d_Frame_correctionsAgree_14 : decode prog_6_method_12_code 14 = .ok (.iload_n 1, 1) := by decide +kernel
theorem d_Frame_correctionsAgree_15 : decode prog_6_method_12_code 15 = .ok (.iaload, 1) := by decide +kernel
theorem d_Frame_correctionsAgree_16 : decode prog_6_method_12_code 16 = .ok (.invokestatic 76, 3) := by decide +kernel
theorem d_Frame_correctionsAgree_19 : decode prog_6_method_12_code 19 = .ok (.invokestatic 79, 3) := by decide +kernel
theorem d_Frame_correctionsAgree_22 : decode prog_6_method_12_code 22 = .ok (.aload_n 0, 1) := by decide +kernel
theorem d_Frame_correctionsAgree_23 : decode prog_6_method_12_code 23 = .ok (.getfield 9, 3) := by decide +kernel
theorem d_Frame_correctionsAgree_26 : decode prog_6_method_12_code 26 = .ok (.iload_n 1, 1) := by decide +kernel
theorem d_Frame_correctionsAgree_27 : decode prog_6_method_12_code 27 = .ok (.iaload, 1) := by decide +kernel
theorem d_Frame_correctionsAgree_28 : decode prog_6_method_12_code 28 = .ok (.invokestatic 82, 3) := by decide +kernel
theorem d_Frame_correctionsAgree_31 : decode prog_6_method_12_code 31 = .ok (.if_icmp .eq 5, 3) := by decide +kernel
theorem d_Frame_correctionsAgree_34 : decode prog_6_method_12_code 34 = .ok (.iconst 0, 1) := by decide +kernel
theorem d_Frame_correctionsAgree_35 : decode prog_6_method_12_code 35 = .ok (.ireturn, 1) := by decide +kernel
theorem d_Frame_correctionsAgree_36 : decode prog_6_method_12_code 36 = .ok (.iinc 1 1, 3) := by decide +kernel
theorem d_Frame_correctionsAgree_39 : decode prog_6_method_12_code 39 = .ok (.goto (-37), 3) := by decide +kernel
theorem d_Frame_correctionsAgree_42 : decode prog_6_method_12_code 42 = .ok (.iconst 1, 1) := by decide +kernel
theorem d_Frame_correctionsAgree_43 : decode prog_6_method_12_code 43 = .ok (.ireturn, 1) := by decide +kernel
set_option maxHeartbeats 4000000 in
set_option maxRecDepth 20000 in
theorem c_Frame_correctionsAgree {P : xP} {F : xF} {z : Nat} {r : Nat} {k : Nat} {b : Nat → Nat} {tn : Nat} {ts : Nat → Nat} {fw : Nat → Nat} (hr : xFr F (r) (k) (b) (tn) (ts) (fw))  : xM P xy_Frame_correctionsAgree [.ref r] F (z) 0 0 (fun r9 F9 z9 => r9 = some (.int (nI 1)) ∧ F9 = F ∧ z9 = z) := by
  refine xM_i .boolean rfl (Nat.le_of_ble_eq_true rfl) (L0 := [some (.ref r), none]) rfl rfl fun Θ hC hret => ?_
  obtain ⟨h0, hk, ⟨g, h1, hg⟩, h2, h4⟩ := id hr
  have hk28 := hk.1
  refine x_iconst hC d_Frame_correctionsAgree_0 (v := nI 0) (by decide) ?_
  refine x_istore_n hC d_Frame_correctionsAgree_1 rfl (Nat.le_of_ble_eq_true rfl) (L1 := [some (.ref r), some (.int (nI 0))]) rfl ?_
  have loop_2 : ∀ (m9 : Nat) (i : Nat), (F (r) = some (.inl (2, [.ref (r + 1), .ref (r + 2), .ref (r + 4), .int (nI (k))]))) → (F (r + 1) = some (.inr (0, 28, fun b9 => .int (nI (g b9))))) → (xTx F (r + 2) (16) (tn) (ts)) → (xCd F (r + 4) (fw) ((hLen fw)) ((hVal (hLen fw))) ((hOrd (hLen fw))) ((hSum fw))) → (i ≤ k) → (k - i < m9) → xX P Θ 2 [some (.ref r), some (.int (nI (i)))] [] F (z) 0 0 := by
    intro m9
    induction m9 with
    | zero => intros; omega
    | succ m9 ih_2 =>
      intro  i h0 h1 h2 h4 hi hm_2
      refine x_iload_n hC d_Frame_correctionsAgree_2 rfl rfl ?_
      refine x_aload_n hC d_Frame_correctionsAgree_3 rfl rfl ?_
      refine x_getf hC kf_Frame_31 h0 rfl d_Frame_correctionsAgree_4 ?_
      refine x_icmpN_ge hC d_Frame_correctionsAgree_7 (tgt := 42) (by decide) (by omega) (by omega) (fun c_7 => ?_) (fun c_7 => ?_)
      · skip
        refine x_iconst hC d_Frame_correctionsAgree_42 (v := nI 1) (by decide) ?_
        exact hret _ _ _ _ _ _ _ d_Frame_correctionsAgree_43 (by decide) (by decide) rfl (⟨rfl, rfl, rfl⟩)
      · skip
        refine x_aload_n hC d_Frame_correctionsAgree_10 rfl rfl ?_
        refine x_getf hC kf_Frame_9 h0 rfl d_Frame_correctionsAgree_11 ?_
        refine x_iload_n hC d_Frame_correctionsAgree_14 rfl rfl ?_
        refine x_iald hC h1 (j := i) ⟨rfl, by omega, by omega⟩ (x := nI (g (i))) rfl d_Frame_correctionsAgree_15 ?_
        have hb9 : g i < 128 := by rw [hg i (by omega)]; exact hk.2 i (by omega)
        refine x_callS hC ks_Frame_76 (c_Frame_corrected (hx := by omega)) (by decide) rfl rfl rfl (Nat.le_of_ble_eq_true rfl) (by decide) d_Frame_correctionsAgree_16 (fun r9 F9 z9 hp9 => ?_)
        obtain ⟨rfl, h9b, h9c⟩ := hp9
        rw [h9b, h9c]
        clear h9b h9c F9 z9
        refine x_callS hC ks_Frame_79 (c_Frame_dataOf (hx := cor_lt _ hb9)) (by decide) rfl rfl rfl (Nat.le_of_ble_eq_true rfl) (by decide) d_Frame_correctionsAgree_19 (fun r9 F9 z9 hp9 => ?_)
        obtain ⟨rfl, h9b, h9c⟩ := hp9
        rw [h9b, h9c]
        clear h9b h9c F9 z9
        refine x_aload_n hC d_Frame_correctionsAgree_22 rfl rfl ?_
        refine x_getf hC kf_Frame_9 h0 rfl d_Frame_correctionsAgree_23 ?_
        refine x_iload_n hC d_Frame_correctionsAgree_26 rfl rfl ?_
        refine x_iald hC h1 (j := i) ⟨rfl, by omega, by omega⟩ (x := nI (g (i))) rfl d_Frame_correctionsAgree_27 ?_
        refine x_callS hC ks_Frame_82 (c_Frame_nearestData (hx := by omega)) (by decide) rfl rfl rfl (Nat.le_of_ble_eq_true rfl) (by decide) d_Frame_correctionsAgree_28 (fun r9 F9 z9 hp9 => ?_)
        obtain ⟨rfl, h9b, h9c⟩ := hp9
        rw [h9b, h9c]
        clear h9b h9c F9 z9
        have hd9 := dat_lt _ (cor_lt _ hb9)
        have hn9 := nea_eq _ hb9
        have hn8 : nea (g i) < 16 := by rw [← hn9]; exact hd9
        refine x_icmpN_eq hC d_Frame_correctionsAgree_31 (tgt := 36) (by decide) (by omega) (by omega) (fun c_31 => ?_) (fun c_31 => ?_)
        · skip
          refine x_iinc hC d_Frame_correctionsAgree_36 rfl (v := (nI (i + 1))) (x_incN 1) (Nat.le_of_ble_eq_true rfl) (L1 := [some (.ref r), some (.int (nI (i + 1)))]) rfl ?_
          refine x_goto hC d_Frame_correctionsAgree_39 (tgt := 2) (by decide) ?_
          exact ih_2  (i + 1) h0 h1 h2 h4 (by omega) (by omega)
        · skip
          exact absurd (nea_eq _ hb9) c_31
  exact loop_2 (k - 0 + 1)  (0) h0 h1 h2 h4 (by omega) (by omega)

theorem d_Frame_decode_0 : decode prog_6_method_13_code 0 = .ok (.aload_n 1, 1) := by decide +kernel
theorem d_Frame_decode_1 : decode prog_6_method_13_code 1 = .ok (.invokevirtual 85, 3) := by decide +kernel
theorem d_Frame_decode_4 : decode prog_6_method_13_code 4 = .ok (.iconst 0, 1) := by decide +kernel
theorem d_Frame_decode_5 : decode prog_6_method_13_code 5 = .ok (.istore_n 2, 1) := by decide +kernel
theorem d_Frame_decode_6 : decode prog_6_method_13_code 6 = .ok (.iconst 0, 1) := by decide +kernel
theorem d_Frame_decode_7 : decode prog_6_method_13_code 7 = .ok (.istore_n 3, 1) := by decide +kernel
theorem d_Frame_decode_8 : decode prog_6_method_13_code 8 = .ok (.iconst 0, 1) := by decide +kernel
theorem d_Frame_decode_9 : decode prog_6_method_13_code 9 = .ok (.istore 4, 2) := by decide +kernel
theorem d_Frame_decode_11 : decode prog_6_method_13_code 11 = .ok (.iload 4, 2) := by decide +kernel
theorem d_Frame_decode_13 : decode prog_6_method_13_code 13 = .ok (.aload_n 0, 1) := by decide +kernel
theorem d_Frame_decode_14 : decode prog_6_method_13_code 14 = .ok (.getfield 31, 3) := by decide +kernel
theorem d_Frame_decode_17 : decode prog_6_method_13_code 17 = .ok (.iconst 4, 1) := by decide +kernel
theorem d_Frame_decode_18 : decode prog_6_method_13_code 18 = .ok (.imul, 1) := by decide +kernel
theorem d_Frame_decode_19 : decode prog_6_method_13_code 19 = .ok (.if_icmp .ge 86, 3) := by decide +kernel
theorem d_Frame_decode_22 : decode prog_6_method_13_code 22 = .ok (.aload_n 1, 1) := by decide +kernel
theorem d_Frame_decode_23 : decode prog_6_method_13_code 23 = .ok (.getfield 88, 3) := by decide +kernel
theorem d_Frame_decode_26 : decode prog_6_method_13_code 26 = .ok (.aload_n 0, 1) := by decide +kernel
theorem d_Frame_decode_27 : decode prog_6_method_13_code 27 = .ok (.getfield 20, 3) := by decide +kernel
theorem d_Frame_decode_30 : decode prog_6_method_13_code 30 = .ok (.getfield 88, 3) := by decide +kernel
theorem d_Frame_decode_33 : decode prog_6_method_13_code 33 = .ok (.if_icmp .ge 72, 3) := by decide +kernel
theorem d_Frame_decode_36 : decode prog_6_method_13_code 36 = .ok (.aload_n 0, 1) := by decide +kernel
theorem d_Frame_decode_37 : decode prog_6_method_13_code 37 = .ok (.getfield 9, 3) := by decide +kernel
theorem d_Frame_decode_40 : decode prog_6_method_13_code 40 = .ok (.iload 4, 2) := by decide +kernel
theorem d_Frame_decode_42 : decode prog_6_method_13_code 42 = .ok (.iconst 4, 1) := by decide +kernel
theorem d_Frame_decode_43 : decode prog_6_method_13_code 43 = .ok (.idiv, 1) := by decide +kernel
theorem d_Frame_decode_44 : decode prog_6_method_13_code 44 = .ok (.iaload, 1) := by decide +kernel
theorem d_Frame_decode_45 : decode prog_6_method_13_code 45 = .ok (.invokestatic 76, 3) := by decide +kernel
theorem d_Frame_decode_48 : decode prog_6_method_13_code 48 = .ok (.invokestatic 79, 3) := by decide +kernel
theorem d_Frame_decode_51 : decode prog_6_method_13_code 51 = .ok (.istore 5, 2) := by decide +kernel
theorem d_Frame_decode_53 : decode prog_6_method_13_code 53 = .ok (.iload_n 2, 1) := by decide +kernel
theorem d_Frame_decode_54 : decode prog_6_method_13_code 54 = .ok (.iconst 1, 1) := by decide +kernel
theorem d_Frame_decode_55 : decode prog_6_method_13_code 55 = .ok (.ishl, 1) := by decide +kernel
theorem d_Frame_decode_56 : decode prog_6_method_13_code 56 = .ok (.iload 5, 2) := by decide +kernel
theorem d_Frame_decode_58 : decode prog_6_method_13_code 58 = .ok (.iconst 3, 1) := by decide +kernel
theorem d_Frame_decode_59 : decode prog_6_method_13_code 59 = .ok (.iload 4, 2) := by decide +kernel
theorem d_Frame_decode_61 : decode prog_6_method_13_code 61 = .ok (.iconst 4, 1) := by decide +kernel
theorem d_Frame_decode_62 : decode prog_6_method_13_code 62 = .ok (.irem, 1) := by decide +kernel
theorem d_Frame_decode_63 : decode prog_6_method_13_code 63 = .ok (.isub, 1) := by decide +kernel
theorem d_Frame_decode_64 : decode prog_6_method_13_code 64 = .ok (.ishr, 1) := by decide +kernel
theorem d_Frame_decode_65 : decode prog_6_method_13_code 65 = .ok (.iconst 1, 1) := by decide +kernel
theorem d_Frame_decode_66 : decode prog_6_method_13_code 66 = .ok (.iand, 1) := by decide +kernel
theorem d_Frame_decode_67 : decode prog_6_method_13_code 67 = .ok (.ior, 1) := by decide +kernel
theorem d_Frame_decode_68 : decode prog_6_method_13_code 68 = .ok (.istore_n 2, 1) := by decide +kernel
theorem d_Frame_decode_69 : decode prog_6_method_13_code 69 = .ok (.iinc 3 1, 3) := by decide +kernel
theorem d_Frame_decode_72 : decode prog_6_method_13_code 72 = .ok (.aload_n 0, 1) := by decide +kernel
theorem d_Frame_decode_73 : decode prog_6_method_13_code 73 = .ok (.getfield 27, 3) := by decide +kernel
theorem d_Frame_decode_76 : decode prog_6_method_13_code 76 = .ok (.iload_n 2, 1) := by decide +kernel
theorem d_Frame_decode_77 : decode prog_6_method_13_code 77 = .ok (.iload_n 3, 1) := by decide +kernel
theorem d_Frame_decode_78 : decode prog_6_method_13_code 78 = .ok (.invokevirtual 89, 3) := by decide +kernel
theorem d_Frame_decode_81 : decode prog_6_method_13_code 81 = .ok (.istore 6, 2) := by decide +kernel
theorem d_Frame_decode_83 : decode prog_6_method_13_code 83 = .ok (.iload 6, 2) := by decide +kernel
theorem d_Frame_decode_85 : decode prog_6_method_13_code 85 = .ok (.ifCond .eq 14, 3) := by decide +kernel
theorem d_Frame_decode_88 : decode prog_6_method_13_code 88 = .ok (.aload_n 1, 1) := by decide +kernel
theorem d_Frame_decode_89 : decode prog_6_method_13_code 89 = .ok (.iload 6, 2) := by decide +kernel
theorem d_Frame_decode_91 : decode prog_6_method_13_code 91 = .ok (.invokevirtual 93, 3) := by decide +kernel
theorem d_Frame_decode_94 : decode prog_6_method_13_code 94 = .ok (.pop, 1) := by decide +kernel
theorem d_Frame_decode_95 : decode prog_6_method_13_code 95 = .ok (.iconst 0, 1) := by decide +kernel
theorem d_Frame_decode_96 : decode prog_6_method_13_code 96 = .ok (.istore_n 2, 1) := by decide +kernel
theorem d_Frame_decode_97 : decode prog_6_method_13_code 97 = .ok (.iconst 0, 1) := by decide +kernel
theorem d_Frame_decode_98 : decode prog_6_method_13_code 98 = .ok (.istore_n 3, 1) := by decide +kernel
theorem d_Frame_decode_99 : decode prog_6_method_13_code 99 = .ok (.iinc 4 1, 3) := by decide +kernel
theorem d_Frame_decode_102 : decode prog_6_method_13_code 102 = .ok (.goto (-91), 3) := by decide +kernel
theorem d_Frame_decode_105 : decode prog_6_method_13_code 105 = .ok (.return_, 1) := by decide +kernel
set_option maxHeartbeats 4000000 in
set_option maxRecDepth 20000 in
theorem c_Frame_decode {P : xP} {F : xF} {z : Nat} {r : Nat} {k : Nat} {b : Nat → Nat} {tn : Nat} {ts : Nat → Nat} {fw : Nat → Nat} {t : Nat} {n : Nat} {s : Nat → Nat} (hr : xFr F (r) (k) (b) (tn) (ts) (fw)) (ht : xTx F (t) (16) (n) (s)) (hd : t + 2 ≤ r ∨ r + 11 ≤ t) : xM P xy_Frame_decode [.ref r, .ref t] F (z) 0 0 (fun r9 F9 z9 => r9 = none ∧ z9 = z ∧ xTx F9 (t) (16) ((decS (hLen fw) (hVal (hLen fw)) b tn (k * 4)).2.2.1) ((decS (hLen fw) (hVal (hLen fw)) b tn (k * 4)).2.2.2) ∧ xFr F9 (r) (k) (b) (tn) (ts) (fw) ∧ (∀ a9 : Nat, (a9 < t ∨ t + 2 ≤ a9) → F9 a9 = F a9)) := by
  refine xM_v rfl (Nat.le_of_ble_eq_true rfl) (L0 := [some (.ref r), some (.ref t), none, none, none, none, none]) rfl rfl fun Θ hC hin hret => ?_
  have hag : ∀ a9 : Nat, (a9 < t ∨ t + 2 ≤ a9) → F a9 = F a9 := fun a9 _ => rfl
  obtain ⟨h0, hk, ⟨g, h1, hg⟩, h2, h4⟩ := id hr
  have hk28 := hk.1
  have htn := h2.2.1.1
  refine x_aload_n hC d_Frame_decode_0 rfl rfl ?_
  refine x_callV hC kv_Frame_85 (c_Text_clear (ht := ht)) ht.1 rfl rfl (by decide) rfl rfl rfl (Nat.le_of_ble_eq_true rfl) (by decide) d_Frame_decode_1 (fun r9 F9 z9 hp9 => ?_)
  obtain ⟨rfl, h9c, j0, hag9⟩ := hp9
  rw [h9c]
  clear h9c z9
  generalize F9 = F1 at *
  have h0 : F1 (r) = some (.inl (2, [.ref (r + 1), .ref (r + 2), .ref (r + 4), .int (nI (k))])) := (hag9 _ (by omega)).trans h0
  have h1 : F1 (r + 1) = some (.inr (0, 28, fun b9 => .int (nI (g b9)))) := (hag9 _ (by omega)).trans h1
  have h2 : xTx F1 (r + 2) (16) (tn) (ts) := xTx_fr h2 (fun a9 q1 q2 => hag9 a9 (by omega))
  have h4 : xCd F1 (r + 4) (fw) ((hLen fw)) ((hVal (hLen fw))) ((hOrd (hLen fw))) ((hSum fw)) := xCd_fr h4 (fun a9 q1 q2 => hag9 a9 (by omega))
  have ht : xTx F1 (t) (16) (0) (s) := j0
  have hag : ∀ a9 : Nat, (a9 < t ∨ t + 2 ≤ a9) → F1 a9 = F a9 := fun a9 q0 => (hag9 a9 (by omega)).trans (hag a9 q0)
  have hg_1 := hag9
  clear hag9
  have ht : xTx F1 t 16 0 (fun _ => 0) := xTx_ext ht (fun j hj => absurd hj (by omega))
  refine x_iconst hC d_Frame_decode_4 (v := nI 0) (by decide) ?_
  refine x_istore_n hC d_Frame_decode_5 rfl (Nat.le_of_ble_eq_true rfl) (L1 := [some (.ref r), some (.ref t), some (.int (nI 0)), none, none, none, none]) rfl ?_
  refine x_iconst hC d_Frame_decode_6 (v := nI 0) (by decide) ?_
  refine x_istore_n hC d_Frame_decode_7 rfl (Nat.le_of_ble_eq_true rfl) (L1 := [some (.ref r), some (.ref t), some (.int (nI 0)), some (.int (nI 0)), none, none, none]) rfl ?_
  refine x_iconst hC d_Frame_decode_8 (v := nI 0) (by decide) ?_
  refine x_istore hC d_Frame_decode_9 (Nat.le_of_ble_eq_true rfl) (L1 := [some (.ref r), some (.ref t), some (.int (nI 0)), some (.int (nI 0)), some (.int (nI 0)), none, none]) rfl ?_
  have loop_11 : ∀ (m9 : Nat) (Fh11 : xF) (i : Nat) (v : Int32) (l : Nat) (n1 : Nat) (s1 : Nat → Nat), (Fh11 (r) = some (.inl (2, [.ref (r + 1), .ref (r + 2), .ref (r + 4), .int (nI (k))]))) → (Fh11 (r + 1) = some (.inr (0, 28, fun b9 => .int (nI (g b9))))) → (xTx Fh11 (r + 2) (16) (tn) (ts)) → (xCd Fh11 (r + 4) (fw) ((hLen fw)) ((hVal (hLen fw))) ((hOrd (hLen fw))) ((hSum fw))) → (xTx Fh11 (t) (16) (n1) (s1)) → (∀ a9 : Nat, (a9 < t ∨ t + 2 ≤ a9) → Fh11 a9 = F a9) → (i ≤ k * 4 ∧ l ≤ i) → (decS (hLen fw) (hVal (hLen fw)) b tn i = (v, l, n1, s1)) → (k * 4 - i < m9) → xX P Θ 11 [some (.ref r), some (.ref t), some (.int v), some (.int (nI (l))), some (.int (nI (i))), none, none] [] Fh11 (z) 0 0 := by
    intro m9
    induction m9 with
    | zero => intros; omega
    | succ m9 ih_11 =>
      intro Fh11 i v l n1 s1 h0 h1 h2 h4 ht hag hi kd hm_11
      have hn16 := ht.2.1.1
      refine x_iload hC d_Frame_decode_11 rfl ?_
      refine x_aload_n hC d_Frame_decode_13 rfl rfl ?_
      refine x_getf hC kf_Frame_31 h0 rfl d_Frame_decode_14 ?_
      refine x_iconst hC d_Frame_decode_17 (v := nI 4) (by decide) ?_
      refine x_imul hC d_Frame_decode_18 (v := (nI ((k) * (4)))) (pk_mul _ _) ?_
      refine x_icmpN_ge hC d_Frame_decode_19 (tgt := 105) (by decide) (by omega) (by omega) (fun c_19 => ?_) (fun c_19 => ?_)
      · skip
        refine hret _ _ _ _ _ _ d_Frame_decode_105 (by decide) (by decide) ?_
        obtain rfl : i = k * 4 := by omega
        exact ⟨rfl, rfl, by rw [kd]; exact ht, ⟨h0, hk, ⟨g, h1, hg⟩, h2, h4⟩, hag⟩
      · skip
        refine x_aload_n hC d_Frame_decode_22 rfl rfl ?_
        refine x_getf hC kf_Frame_88 ht.1 rfl d_Frame_decode_23 ?_
        refine x_aload_n hC d_Frame_decode_26 rfl rfl ?_
        refine x_getf hC kf_Frame_20 h0 rfl d_Frame_decode_27 ?_
        refine x_getf hC kf_Frame_88 h2.1 rfl d_Frame_decode_30 ?_
        refine x_icmpN_ge hC d_Frame_decode_33 (tgt := 105) (by decide) (by omega) (by omega) (fun c_33 => ?_) (fun c_33 => ?_)
        · skip
          refine hret _ _ _ _ _ _ d_Frame_decode_105 (by decide) (by decide) ?_
          have hst : decS (hLen fw) (hVal (hLen fw)) b tn (k * 4) = decS (hLen fw) (hVal (hLen fw)) b tn i := by rw [show k * 4 = i + (k * 4 - i) by omega]; exact decS_stop (by rw [kd]; exact c_33) _
          exact ⟨rfl, rfl, by rw [hst, kd]; exact ht, ⟨h0, hk, ⟨g, h1, hg⟩, h2, h4⟩, hag⟩
        · skip
          refine x_aload_n hC d_Frame_decode_36 rfl rfl ?_
          refine x_getf hC kf_Frame_9 h0 rfl d_Frame_decode_37 ?_
          refine x_iload hC d_Frame_decode_40 rfl ?_
          refine x_iconst hC d_Frame_decode_42 (v := nI 4) (by decide) ?_
          refine x_idiv hC d_Frame_decode_43 (x_ne0 (by omega) (by omega)) (v := (nI ((i) / (4)))) (pk_div (by omega) (by omega) (by omega)) ?_
          refine x_iald hC h1 (j := (i) / (4)) ⟨rfl, by omega, by omega⟩ (x := nI (g ((i) / (4)))) rfl d_Frame_decode_44 ?_
          have hb9 : g (i / 4) < 128 := by rw [hg _ (by omega)]; exact hk.2 _ (by omega)
          refine x_callS hC ks_Frame_76 (c_Frame_corrected (hx := hb9)) (by decide) rfl rfl rfl (Nat.le_of_ble_eq_true rfl) (by decide) d_Frame_decode_45 (fun r9 F9 z9 hp9 => ?_)
          obtain ⟨rfl, h9b, h9c⟩ := hp9
          rw [h9b, h9c]
          clear h9b h9c F9 z9
          refine x_callS hC ks_Frame_79 (c_Frame_dataOf (hx := cor_lt _ hb9)) (by decide) rfl rfl rfl (Nat.le_of_ble_eq_true rfl) (by decide) d_Frame_decode_48 (fun r9 F9 z9 hp9 => ?_)
          obtain ⟨rfl, h9b, h9c⟩ := hp9
          rw [h9b, h9c]
          clear h9b h9c F9 z9
          have hd9 : datN (corN (b (i / 4))) < 16 := by rw [← hg _ (by omega)]; exact dat_lt _ (cor_lt _ hb9)
          refine x_top (v := (nI (datN (corN (b (i / 4)))))) (by rw [hg _ (by omega)]) ?_
          refine x_istore hC d_Frame_decode_51 (Nat.le_of_ble_eq_true rfl) (L1 := [some (.ref r), some (.ref t), some (.int v), some (.int (nI (l))), some (.int (nI (i))), some (.int (nI (datN (corN (b (i / 4)))))), none]) rfl ?_
          refine x_iload_n hC d_Frame_decode_53 rfl rfl ?_
          refine x_iconst hC d_Frame_decode_54 (v := nI 1) (by decide) ?_
          refine x_ishl hC d_Frame_decode_55 (v := (v <<< (nI 1 &&& 31))) rfl ?_
          refine x_iload hC d_Frame_decode_56 rfl ?_
          refine x_iconst hC d_Frame_decode_58 (v := nI 3) (by decide) ?_
          refine x_iload hC d_Frame_decode_59 rfl ?_
          refine x_iconst hC d_Frame_decode_61 (v := nI 4) (by decide) ?_
          refine x_irem hC d_Frame_decode_62 (x_ne0 (by omega) (by omega)) (v := (nI ((i) % (4)))) (pk_rem (by omega) (by omega) (by omega)) ?_
          refine x_isub hC d_Frame_decode_63 (v := (nI ((3) - ((i) % (4))))) (pk_sub (by omega)) ?_
          refine x_ishr hC d_Frame_decode_64 (v := (nI (datN (corN (b (i / 4))) / 2 ^ (3 - i % 4)))) (x_shrN (3 - i % 4) (by omega) (by omega) rfl) ?_
          refine x_iconst hC d_Frame_decode_65 (v := nI 1) (by decide) ?_
          refine x_iand hC d_Frame_decode_66 (v := (nI (datB b i))) (x_and1 (Nat.lt_of_le_of_lt (Nat.div_le_self _ _) (by omega))) ?_
          refine x_ior hC d_Frame_decode_67 (v := (decV v (datB b i))) rfl ?_
          refine x_istore_n hC d_Frame_decode_68 rfl (Nat.le_of_ble_eq_true rfl) (L1 := [some (.ref r), some (.ref t), some (.int (decV v (datB b i))), some (.int (nI (l))), some (.int (nI (i))), some (.int (nI (datN (corN (b (i / 4)))))), none]) rfl ?_
          refine x_iinc hC d_Frame_decode_69 rfl (v := (nI (l + 1))) (x_incN 1) (Nat.le_of_ble_eq_true rfl) (L1 := [some (.ref r), some (.ref t), some (.int (decV v (datB b i))), some (.int (nI (l + 1))), some (.int (nI (i))), some (.int (nI (datN (corN (b (i / 4)))))), none]) rfl ?_
          refine x_aload_n hC d_Frame_decode_72 rfl rfl ?_
          refine x_getf hC kf_Frame_27 h0 rfl d_Frame_decode_73 ?_
          refine x_iload_n hC d_Frame_decode_76 rfl rfl ?_
          refine x_iload_n hC d_Frame_decode_77 rfl rfl ?_
          refine x_callV hC kv_Frame_89 (c_Code_symbolForI (hc := h4) (hl := by omega)) h4.1 rfl rfl (by decide) rfl rfl rfl (Nat.le_of_ble_eq_true rfl) (by decide) d_Frame_decode_78 (fun r9 F9 z9 hp9 => ?_)
          obtain ⟨rfl, h9b, h9c⟩ := hp9
          rw [h9b, h9c]
          clear h9b h9c F9 z9
          have hs9 := symI_le (hLen fw) (hVal (hLen fw)) (decV v (datB b i)) (l + 1) 8 (by omega)
          have hs8 : (if symI (hLen fw) (hVal (hLen fw)) (decV v (datB b i)) (l + 1) 8 < 8 then 97 + symI (hLen fw) (hVal (hLen fw)) (decV v (datB b i)) (l + 1) 8 else 0) < 200 := by split <;> omega
          refine x_istore hC d_Frame_decode_81 (Nat.le_of_ble_eq_true rfl) (L1 := [some (.ref r), some (.ref t), some (.int (decV v (datB b i))), some (.int (nI (l + 1))), some (.int (nI (i))), some (.int (nI (datN (corN (b (i / 4)))))), some (.int (nI (if symI (hLen fw) (hVal (hLen fw)) (decV v (datB b i)) (l + 1) 8 < 8 then 97 + symI (hLen fw) (hVal (hLen fw)) (decV v (datB b i)) (l + 1) 8 else 0)))]) rfl ?_
          refine x_iload hC d_Frame_decode_83 rfl ?_
          refine x_ifN_eq hC d_Frame_decode_85 (tgt := 99) (by decide) (by omega) (fun c_85 => ?_) (fun c_85 => ?_)
          · skip
            have hx9 : ¬ symI (hLen fw) (hVal (hLen fw)) (decV v (datB b i)) (l + 1) 8 < 8 := fun e => by rw [if_pos e] at c_85; omega
            refine x_iinc hC d_Frame_decode_99 rfl (v := (nI (i + 1))) (x_incN 1) (Nat.le_of_ble_eq_true rfl) (L1 := [some (.ref r), some (.ref t), some (.int (decV v (datB b i))), some (.int (nI (l + 1))), some (.int (nI (i + 1))), some (.int (nI (datN (corN (b (i / 4)))))), some (.int (nI (if symI (hLen fw) (hVal (hLen fw)) (decV v (datB b i)) (l + 1) 8 < 8 then 97 + symI (hLen fw) (hVal (hLen fw)) (decV v (datB b i)) (l + 1) 8 else 0)))]) rfl ?_
            refine x_goto hC d_Frame_decode_102 (tgt := 11) (by decide) ?_
            refine x_forget (L1 := [some (.ref r), some (.ref t), some (.int (decV v (datB b i))), some (.int (nI (l + 1))), some (.int (nI (i + 1))), none, none]) ⟨Or.inr rfl, ⟨Or.inr rfl, ⟨Or.inr rfl, ⟨Or.inr rfl, ⟨Or.inr rfl, ⟨Or.inl rfl, ⟨Or.inl rfl, trivial⟩⟩⟩⟩⟩⟩⟩ ?_
            exact ih_11 Fh11 (i + 1) (decV v (datB b i)) (l + 1) (n1) (s1) h0 h1 h2 h4 ht hag (by omega) (by first | exact decS_no kd c_33 hx9 | exact decS_hit kd c_33 hx9) (by omega)
          · skip
            have hx9 : symI (hLen fw) (hVal (hLen fw)) (decV v (datB b i)) (l + 1) 8 < 8 := Decidable.byContradiction (fun e => by rw [if_neg e] at c_85; omega)
            refine x_aload_n hC d_Frame_decode_88 rfl rfl ?_
            refine x_iload hC d_Frame_decode_89 rfl ?_
            refine x_top (v := (nI (97 + symI (hLen fw) (hVal (hLen fw)) (decV v (datB b i)) (l + 1) 8))) (by rw [if_pos hx9]) ?_
            refine x_callV hC kv_Frame_93 (c_Text_add1 (ht := ht) (hlt := by omega) (hc0 := by omega)) ht.1 rfl rfl (by decide) rfl rfl rfl (Nat.le_of_ble_eq_true rfl) (by decide) d_Frame_decode_91 (fun r9 F9 z9 hp9 => ?_)
            obtain ⟨rfl, h9c, j0, hag9⟩ := hp9
            rw [h9c]
            clear h9c z9
            generalize F9 = F2 at *
            have h0 : F2 (r) = some (.inl (2, [.ref (r + 1), .ref (r + 2), .ref (r + 4), .int (nI (k))])) := (hag9 _ (by omega)).trans h0
            have h1 : F2 (r + 1) = some (.inr (0, 28, fun b9 => .int (nI (g b9)))) := (hag9 _ (by omega)).trans h1
            have h2 : xTx F2 (r + 2) (16) (tn) (ts) := xTx_fr h2 (fun a9 q1 q2 => hag9 a9 (by omega))
            have h4 : xCd F2 (r + 4) (fw) ((hLen fw)) ((hVal (hLen fw))) ((hOrd (hLen fw))) ((hSum fw)) := xCd_fr h4 (fun a9 q1 q2 => hag9 a9 (by omega))
            have ht : xTx F2 (t) (16) (n1 + 1) (updN s1 n1 (97 + symI (hLen fw) (hVal (hLen fw)) (decV v (datB b i)) (l + 1) 8)) := j0
            have hag : ∀ a9 : Nat, (a9 < t ∨ t + 2 ≤ a9) → F2 a9 = F a9 := fun a9 q0 => (hag9 a9 (by omega)).trans (hag a9 q0)
            have hg_91 := hag9
            clear hag9
            refine x_pop hC d_Frame_decode_94 rfl ?_
            refine x_iconst hC d_Frame_decode_95 (v := 0) (by decide) ?_
            refine x_istore_n hC d_Frame_decode_96 rfl (Nat.le_of_ble_eq_true rfl) (L1 := [some (.ref r), some (.ref t), some (.int 0), some (.int (nI (l + 1))), some (.int (nI (i))), some (.int (nI (datN (corN (b (i / 4)))))), some (.int (nI (if symI (hLen fw) (hVal (hLen fw)) (decV v (datB b i)) (l + 1) 8 < 8 then 97 + symI (hLen fw) (hVal (hLen fw)) (decV v (datB b i)) (l + 1) 8 else 0)))]) rfl ?_
            refine x_iconst hC d_Frame_decode_97 (v := nI 0) (by decide) ?_
            refine x_istore_n hC d_Frame_decode_98 rfl (Nat.le_of_ble_eq_true rfl) (L1 := [some (.ref r), some (.ref t), some (.int 0), some (.int (nI 0)), some (.int (nI (i))), some (.int (nI (datN (corN (b (i / 4)))))), some (.int (nI (if symI (hLen fw) (hVal (hLen fw)) (decV v (datB b i)) (l + 1) 8 < 8 then 97 + symI (hLen fw) (hVal (hLen fw)) (decV v (datB b i)) (l + 1) 8 else 0)))]) rfl ?_
            refine x_iinc hC d_Frame_decode_99 rfl (v := (nI (i + 1))) (x_incN 1) (Nat.le_of_ble_eq_true rfl) (L1 := [some (.ref r), some (.ref t), some (.int 0), some (.int (nI 0)), some (.int (nI (i + 1))), some (.int (nI (datN (corN (b (i / 4)))))), some (.int (nI (if symI (hLen fw) (hVal (hLen fw)) (decV v (datB b i)) (l + 1) 8 < 8 then 97 + symI (hLen fw) (hVal (hLen fw)) (decV v (datB b i)) (l + 1) 8 else 0)))]) rfl ?_
            refine x_goto hC d_Frame_decode_102 (tgt := 11) (by decide) ?_
            refine x_forget (L1 := [some (.ref r), some (.ref t), some (.int 0), some (.int (nI 0)), some (.int (nI (i + 1))), none, none]) ⟨Or.inr rfl, ⟨Or.inr rfl, ⟨Or.inr rfl, ⟨Or.inr rfl, ⟨Or.inr rfl, ⟨Or.inl rfl, ⟨Or.inl rfl, trivial⟩⟩⟩⟩⟩⟩⟩ ?_
            exact ih_11 F2 (i + 1) (0) (0) (n1 + 1) (updN s1 n1 (97 + symI (hLen fw) (hVal (hLen fw)) (decV v (datB b i)) (l + 1) 8)) h0 h1 h2 h4 ht hag (by omega) (by first | exact decS_no kd c_33 hx9 | exact decS_hit kd c_33 hx9) (by omega)
  exact loop_11 (k * 4 - 0 + 1) F1 (0) (0) (0) (0) (fun _ => 0) h0 h1 h2 h4 ht hag (by omega) (rfl) (by omega)

theorem d_Frame_copyFrom_0 : decode prog_6_method_2_code 0 = .ok (.iconst 0, 1) := by decide +kernel
theorem d_Frame_copyFrom_1 : decode prog_6_method_2_code 1 = .ok (.istore_n 2, 1) := by decide +kernel
theorem d_Frame_copyFrom_2 : decode prog_6_method_2_code 2 = .ok (.iload_n 2, 1) := by decide +kernel
theorem d_Frame_copyFrom_3 : decode prog_6_method_2_code 3 = .ok (.aload_n 1, 1) := by decide +kernel
theorem d_Frame_copyFrom_4 : decode prog_6_method_2_code 4 = .ok (.getfield 31, 3) := by decide +kernel
theorem d_Frame_copyFrom_7 : decode prog_6_method_2_code 7 = .ok (.if_icmp .ge 21, 3) := by decide +kernel
theorem d_Frame_copyFrom_10 : decode prog_6_method_2_code 10 = .ok (.aload_n 0, 1) := by decide +kernel
theorem d_Frame_copyFrom_11 : decode prog_6_method_2_code 11 = .ok (.getfield 9, 3) := by decide +kernel
theorem d_Frame_copyFrom_14 : decode prog_6_method_2_code 14 = .ok (.iload_n 2, 1) := by decide +kernel
theorem d_Frame_copyFrom_15 : decode prog_6_method_2_code 15 = .ok (.aload_n 1, 1) := by decide +kernel
theorem d_Frame_copyFrom_16 : decode prog_6_method_2_code 16 = .ok (.getfield 9, 3) := by decide +kernel
theorem d_Frame_copyFrom_19 : decode prog_6_method_2_code 19 = .ok (.iload_n 2, 1) := by decide +kernel
theorem d_Frame_copyFrom_20 : decode prog_6_method_2_code 20 = .ok (.iaload, 1) := by decide +kernel
theorem d_Frame_copyFrom_21 : decode prog_6_method_2_code 21 = .ok (.iastore, 1) := by decide +kernel
theorem d_Frame_copyFrom_22 : decode prog_6_method_2_code 22 = .ok (.iinc 2 1, 3) := by decide +kernel
theorem d_Frame_copyFrom_25 : decode prog_6_method_2_code 25 = .ok (.goto (-23), 3) := by decide +kernel
theorem d_Frame_copyFrom_28 : decode prog_6_method_2_code 28 = .ok (.aload_n 0, 1) := by decide +kernel
theorem d_Frame_copyFrom_29 : decode prog_6_method_2_code 29 = .ok (.getfield 20, 3) := by decide +kernel
theorem d_Frame_copyFrom_32 : decode prog_6_method_2_code 32 = .ok (.aload_n 1, 1) := by decide +kernel
theorem d_Frame_copyFrom_33 : decode prog_6_method_2_code 33 = .ok (.getfield 20, 3) := by decide +kernel
theorem d_Frame_copyFrom_36 : decode prog_6_method_2_code 36 = .ok (.invokevirtual 35, 3) := by decide +kernel
theorem d_Frame_copyFrom_39 : decode prog_6_method_2_code 39 = .ok (.aload_n 0, 1) := by decide +kernel
theorem d_Frame_copyFrom_40 : decode prog_6_method_2_code 40 = .ok (.getfield 27, 3) := by decide +kernel
theorem d_Frame_copyFrom_43 : decode prog_6_method_2_code 43 = .ok (.aload_n 1, 1) := by decide +kernel
theorem d_Frame_copyFrom_44 : decode prog_6_method_2_code 44 = .ok (.getfield 27, 3) := by decide +kernel
theorem d_Frame_copyFrom_47 : decode prog_6_method_2_code 47 = .ok (.invokevirtual 39, 3) := by decide +kernel
theorem d_Frame_copyFrom_50 : decode prog_6_method_2_code 50 = .ok (.aload_n 0, 1) := by decide +kernel
theorem d_Frame_copyFrom_51 : decode prog_6_method_2_code 51 = .ok (.aload_n 1, 1) := by decide +kernel
theorem d_Frame_copyFrom_52 : decode prog_6_method_2_code 52 = .ok (.getfield 31, 3) := by decide +kernel
theorem d_Frame_copyFrom_55 : decode prog_6_method_2_code 55 = .ok (.putfield 31, 3) := by decide +kernel
theorem d_Frame_copyFrom_58 : decode prog_6_method_2_code 58 = .ok (.return_, 1) := by decide +kernel
set_option maxHeartbeats 4000000 in
set_option maxRecDepth 20000 in
theorem c_Frame_copyFrom {P : xP} {F : xF} {z : Nat} {r : Nat} {k : Nat} {b : Nat → Nat} {tn : Nat} {ts : Nat → Nat} {fw : Nat → Nat} {o : Nat} {ko : Nat} {bo : Nat → Nat} {tno : Nat} {tso : Nat → Nat} {fwo : Nat → Nat} (hr : xFr F (r) (k) (b) (tn) (ts) (fw)) (ho : xFr F (o) (ko) (bo) (tno) (tso) (fwo)) (hd : r + 11 ≤ o ∨ o + 11 ≤ r) : xM P xy_Frame_copyFrom [.ref r, .ref o] F (z) 0 0 (fun r9 F9 z9 => r9 = none ∧ z9 = z ∧ xFr F9 (r) (ko) (bo) (tno) (tso) (fwo) ∧ xFr F9 (o) (ko) (bo) (tno) (tso) (fwo) ∧ (∀ a9 : Nat, (a9 < r ∨ r + 11 ≤ a9) → F9 a9 = F a9)) := by
  refine xM_v rfl (Nat.le_of_ble_eq_true rfl) (L0 := [some (.ref r), some (.ref o), none]) rfl rfl fun Θ hC hin hret => ?_
  have hag : ∀ a9 : Nat, (a9 < r ∨ r + 11 ≤ a9) → F a9 = F a9 := fun a9 _ => rfl
  obtain ⟨h0, hk, ⟨g, h1, hg⟩, h2, h4⟩ := id hr
  obtain ⟨m0, mk, ⟨go, m1, mg⟩, m2, m4⟩ := id ho
  have hk28 := hk.1
  have mk28 := mk.1
  refine x_iconst hC d_Frame_copyFrom_0 (v := nI 0) (by decide) ?_
  refine x_istore_n hC d_Frame_copyFrom_1 rfl (Nat.le_of_ble_eq_true rfl) (L1 := [some (.ref r), some (.ref o), some (.int (nI 0))]) rfl ?_
  have loop_2 : ∀ (m9 : Nat) (Fh2 : xF) (i : Nat) (g1 : Nat → Nat), (Fh2 (r) = some (.inl (2, [.ref (r + 1), .ref (r + 2), .ref (r + 4), .int (nI (k))]))) → (Fh2 (r + 1) = some (.inr (0, 28, fun b9 => .int (nI (g1 b9))))) → (xTx Fh2 (r + 2) (16) (tn) (ts)) → (xCd Fh2 (r + 4) (fw) ((hLen fw)) ((hVal (hLen fw))) ((hOrd (hLen fw))) ((hSum fw))) → (Fh2 (o) = some (.inl (2, [.ref (o + 1), .ref (o + 2), .ref (o + 4), .int (nI (ko))]))) → (Fh2 (o + 1) = some (.inr (0, 28, fun b9 => .int (nI (go b9))))) → (xTx Fh2 (o + 2) (16) (tno) (tso)) → (xCd Fh2 (o + 4) (fwo) ((hLen fwo)) ((hVal (hLen fwo))) ((hOrd (hLen fwo))) ((hSum fwo))) → (∀ a9 : Nat, (a9 < r ∨ r + 11 ≤ a9) → Fh2 a9 = F a9) → (i ≤ ko) → (∀ q, q < i → g1 q = go q) → (ko - i < m9) → xX P Θ 2 [some (.ref r), some (.ref o), some (.int (nI (i)))] [] Fh2 (z) 0 0 := by
    intro m9
    induction m9 with
    | zero => intros; omega
    | succ m9 ih_2 =>
      intro Fh2 i g1 h0 h1 h2 h4 m0 m1 m2 m4 hag hi kz hm_2
      refine x_iload_n hC d_Frame_copyFrom_2 rfl rfl ?_
      refine x_aload_n hC d_Frame_copyFrom_3 rfl rfl ?_
      refine x_getf hC kf_Frame_31 m0 rfl d_Frame_copyFrom_4 ?_
      refine x_icmpN_ge hC d_Frame_copyFrom_7 (tgt := 28) (by decide) (by omega) (by omega) (fun c_7 => ?_) (fun c_7 => ?_)
      · skip
        refine x_aload_n hC d_Frame_copyFrom_28 rfl rfl ?_
        refine x_getf hC kf_Frame_20 h0 rfl d_Frame_copyFrom_29 ?_
        refine x_aload_n hC d_Frame_copyFrom_32 rfl rfl ?_
        refine x_getf hC kf_Frame_20 m0 rfl d_Frame_copyFrom_33 ?_
        refine x_callV hC kv_Frame_35 (c_Text_copyFrom (ht := h2) (ho := m2) (hsz := m2.2.1.1) (hd := by omega)) h2.1 rfl rfl (by decide) rfl rfl rfl (Nat.le_of_ble_eq_true rfl) (by decide) d_Frame_copyFrom_36 (fun r9 F9 z9 hp9 => ?_)
        obtain ⟨rfl, h9c, j0, j1, hag9⟩ := hp9
        rw [h9c]
        clear h9c z9
        generalize F9 = F1 at *
        have h0 : F1 (r) = some (.inl (2, [.ref (r + 1), .ref (r + 2), .ref (r + 4), .int (nI (k))])) := (hag9 _ (by omega)).trans h0
        have h1 : F1 (r + 1) = some (.inr (0, 28, fun b9 => .int (nI (g1 b9)))) := (hag9 _ (by omega)).trans h1
        have h4 : xCd F1 (r + 4) (fw) ((hLen fw)) ((hVal (hLen fw))) ((hOrd (hLen fw))) ((hSum fw)) := xCd_fr h4 (fun a9 q1 q2 => hag9 a9 (by omega))
        have m0 : F1 (o) = some (.inl (2, [.ref (o + 1), .ref (o + 2), .ref (o + 4), .int (nI (ko))])) := (hag9 _ (by omega)).trans m0
        have m1 : F1 (o + 1) = some (.inr (0, 28, fun b9 => .int (nI (go b9)))) := (hag9 _ (by omega)).trans m1
        have m4 : xCd F1 (o + 4) (fwo) ((hLen fwo)) ((hVal (hLen fwo))) ((hOrd (hLen fwo))) ((hSum fwo)) := xCd_fr m4 (fun a9 q1 q2 => hag9 a9 (by omega))
        have h2 : xTx F1 ((r + 2)) (16) (tno) (tso) := j0
        have m2 : xTx F1 ((o + 2)) (16) (tno) (tso) := j1
        have hag : ∀ a9 : Nat, (a9 < r ∨ r + 11 ≤ a9) → F1 a9 = F a9 := fun a9 q0 => (hag9 a9 (by omega)).trans (hag a9 q0)
        have hg_36 := hag9
        clear hag9
        refine x_aload_n hC d_Frame_copyFrom_39 rfl rfl ?_
        refine x_getf hC kf_Frame_27 h0 rfl d_Frame_copyFrom_40 ?_
        refine x_aload_n hC d_Frame_copyFrom_43 rfl rfl ?_
        refine x_getf hC kf_Frame_27 m0 rfl d_Frame_copyFrom_44 ?_
        refine x_callV hC kv_Frame_39 (c_Code_copyFrom (hc := h4) (ho := m4) (hd := by omega)) h4.1 rfl rfl (by decide) rfl rfl rfl (Nat.le_of_ble_eq_true rfl) (by decide) d_Frame_copyFrom_47 (fun r9 F9 z9 hp9 => ?_)
        obtain ⟨rfl, h9c, j0, j1, hag9⟩ := hp9
        rw [h9c]
        clear h9c z9
        generalize F9 = F2 at *
        have h0 : F2 (r) = some (.inl (2, [.ref (r + 1), .ref (r + 2), .ref (r + 4), .int (nI (k))])) := (hag9 _ (by omega)).trans h0
        have h1 : F2 (r + 1) = some (.inr (0, 28, fun b9 => .int (nI (g1 b9)))) := (hag9 _ (by omega)).trans h1
        have m0 : F2 (o) = some (.inl (2, [.ref (o + 1), .ref (o + 2), .ref (o + 4), .int (nI (ko))])) := (hag9 _ (by omega)).trans m0
        have m1 : F2 (o + 1) = some (.inr (0, 28, fun b9 => .int (nI (go b9)))) := (hag9 _ (by omega)).trans m1
        have h2 : xTx F2 ((r + 2)) (16) (tno) (tso) := xTx_fr h2 (fun a9 q1 q2 => hag9 a9 (by omega))
        have m2 : xTx F2 ((o + 2)) (16) (tno) (tso) := xTx_fr m2 (fun a9 q1 q2 => hag9 a9 (by omega))
        have h4 : xCd F2 ((r + 4)) (fwo) ((hLen fwo)) ((hVal (hLen fwo))) ((hOrd (hLen fwo))) ((hSum fwo)) := j0
        have m4 : xCd F2 ((o + 4)) (fwo) ((hLen fwo)) ((hVal (hLen fwo))) ((hOrd (hLen fwo))) ((hSum fwo)) := j1
        have hag : ∀ a9 : Nat, (a9 < r ∨ r + 11 ≤ a9) → F2 a9 = F a9 := fun a9 q0 => (hag9 a9 (by omega)).trans (hag a9 q0)
        have hg_47 := hag9
        clear hag9
        refine x_aload_n hC d_Frame_copyFrom_50 rfl rfl ?_
        refine x_aload_n hC d_Frame_copyFrom_51 rfl rfl ?_
        refine x_getf hC kf_Frame_31 m0 rfl d_Frame_copyFrom_52 ?_
        refine x_putf hC kf_Frame_31 h0 (Nat.le_of_ble_eq_true rfl) rfl rfl d_Frame_copyFrom_55 (fs1 := [.ref (r + 1), .ref (r + 2), .ref (r + 4), .int (nI (ko))]) rfl ?_
        generalize e3 : xup F2 (r) (.inl (2, [.ref (r + 1), .ref (r + 2), .ref (r + 4), .int (nI (ko))])) = F3
        have h0 : F3 (r) = some (.inl (2, [.ref (r + 1), .ref (r + 2), .ref (r + 4), .int (nI (ko))])) := by rw [← e3]; exact xup_eq
        have h1 : F3 (r + 1) = some (.inr (0, 28, fun b9 => .int (nI (g1 b9)))) := by rw [← e3]; exact (xup_ne (by omega)).trans h1
        have m0 : F3 (o) = some (.inl (2, [.ref (o + 1), .ref (o + 2), .ref (o + 4), .int (nI (ko))])) := by rw [← e3]; exact (xup_ne (by omega)).trans m0
        have m1 : F3 (o + 1) = some (.inr (0, 28, fun b9 => .int (nI (go b9)))) := by rw [← e3]; exact (xup_ne (by omega)).trans m1
        have h2 : xTx F3 ((r + 2)) (16) (tno) (tso) := xTx_fr h2 (fun a9 q1 q2 => by rw [← e3]; exact xup_ne (by omega))
        have m2 : xTx F3 ((o + 2)) (16) (tno) (tso) := xTx_fr m2 (fun a9 q1 q2 => by rw [← e3]; exact xup_ne (by omega))
        have h4 : xCd F3 ((r + 4)) (fwo) ((hLen fwo)) ((hVal (hLen fwo))) ((hOrd (hLen fwo))) ((hSum fwo)) := xCd_fr h4 (fun a9 q1 q2 => by rw [← e3]; exact xup_ne (by omega))
        have m4 : xCd F3 ((o + 4)) (fwo) ((hLen fwo)) ((hVal (hLen fwo))) ((hOrd (hLen fwo))) ((hSum fwo)) := xCd_fr m4 (fun a9 q1 q2 => by rw [← e3]; exact xup_ne (by omega))
        have hag : ∀ a9 : Nat, (a9 < r ∨ r + 11 ≤ a9) → F3 a9 = F a9 := fun a9 q0 => by rw [← e3]; exact (xup_ne (by omega)).trans (hag a9 q0)
        exact hret _ _ _ _ _ _ d_Frame_copyFrom_58 (by decide) (by decide) (⟨rfl, rfl, ⟨h0, mk, ⟨g1, h1, fun j hj => (kz j (by omega)).trans (mg j hj)⟩, h2, h4⟩, ⟨m0, mk, ⟨go, m1, mg⟩, m2, m4⟩, hag⟩)
      · skip
        refine x_aload_n hC d_Frame_copyFrom_10 rfl rfl ?_
        refine x_getf hC kf_Frame_9 h0 rfl d_Frame_copyFrom_11 ?_
        refine x_iload_n hC d_Frame_copyFrom_14 rfl rfl ?_
        refine x_aload_n hC d_Frame_copyFrom_15 rfl rfl ?_
        refine x_getf hC kf_Frame_9 m0 rfl d_Frame_copyFrom_16 ?_
        refine x_iload_n hC d_Frame_copyFrom_19 rfl rfl ?_
        refine x_iald hC m1 (j := i) ⟨rfl, by omega, by omega⟩ (x := nI (go (i))) rfl d_Frame_copyFrom_20 ?_
        refine x_iast hC h1 (j := i) ⟨rfl, by omega, by omega⟩ d_Frame_copyFrom_21 (g1 := fun b9 => nI (updN g1 (i) (go (i)) b9)) (x_updN _ _ _) ?_
        generalize eq1 : updN g1 (i) (go (i)) = q1
        generalize e5 : xup Fh2 (r + 1) (.inr (0, 28, fun b9 => .int (nI (q1 b9)))) = F5
        have h0 : F5 (r) = some (.inl (2, [.ref (r + 1), .ref (r + 2), .ref (r + 4), .int (nI (k))])) := by rw [← e5]; exact (xup_ne (by omega)).trans h0
        have h1 : F5 (r + 1) = some (.inr (0, 28, fun b9 => .int (nI (q1 b9)))) := by rw [← e5]; exact xup_eq
        have h2 : xTx F5 (r + 2) (16) (tn) (ts) := xTx_fr h2 (fun a9 q1 q2 => by rw [← e5]; exact xup_ne (by omega))
        have h4 : xCd F5 (r + 4) (fw) ((hLen fw)) ((hVal (hLen fw))) ((hOrd (hLen fw))) ((hSum fw)) := xCd_fr h4 (fun a9 q1 q2 => by rw [← e5]; exact xup_ne (by omega))
        have m0 : F5 (o) = some (.inl (2, [.ref (o + 1), .ref (o + 2), .ref (o + 4), .int (nI (ko))])) := by rw [← e5]; exact (xup_ne (by omega)).trans m0
        have m1 : F5 (o + 1) = some (.inr (0, 28, fun b9 => .int (nI (go b9)))) := by rw [← e5]; exact (xup_ne (by omega)).trans m1
        have m2 : xTx F5 (o + 2) (16) (tno) (tso) := xTx_fr m2 (fun a9 q1 q2 => by rw [← e5]; exact xup_ne (by omega))
        have m4 : xCd F5 (o + 4) (fwo) ((hLen fwo)) ((hVal (hLen fwo))) ((hOrd (hLen fwo))) ((hSum fwo)) := xCd_fr m4 (fun a9 q1 q2 => by rw [← e5]; exact xup_ne (by omega))
        have hag : ∀ a9 : Nat, (a9 < r ∨ r + 11 ≤ a9) → F5 a9 = F a9 := fun a9 q0 => by rw [← e5]; exact (xup_ne (by omega)).trans (hag a9 q0)
        refine x_iinc hC d_Frame_copyFrom_22 rfl (v := (nI (i + 1))) (x_incN 1) (Nat.le_of_ble_eq_true rfl) (L1 := [some (.ref r), some (.ref o), some (.int (nI (i + 1)))]) rfl ?_
        refine x_goto hC d_Frame_copyFrom_25 (tgt := 2) (by decide) ?_
        exact ih_2 F5 (i + 1) (q1) h0 h1 h2 h4 m0 m1 m2 m4 hag (by omega) (fun q hq => (Nat.lt_or_ge q i).elim (fun e => by rw [← eq1, updN_ne (by omega)]; exact kz q e) (fun e => by rw [← eq1, show q = i by omega, updN_eq])) (by omega)
  exact loop_2 (ko - 0 + 1) F (0) (g) h0 h1 h2 h4 m0 m1 m2 m4 hag (by omega) (fun _ hq => absurd hq (by omega)) (by omega)

theorem d_Frame_make_0 : decode prog_6_method_3_code 0 = .ok (.aload_n 0, 1) := by decide +kernel
theorem d_Frame_make_1 : decode prog_6_method_3_code 1 = .ok (.getfield 20, 3) := by decide +kernel
theorem d_Frame_make_4 : decode prog_6_method_3_code 4 = .ok (.aload_n 1, 1) := by decide +kernel
theorem d_Frame_make_5 : decode prog_6_method_3_code 5 = .ok (.invokevirtual 35, 3) := by decide +kernel
theorem d_Frame_make_8 : decode prog_6_method_3_code 8 = .ok (.aload_n 0, 1) := by decide +kernel
theorem d_Frame_make_9 : decode prog_6_method_3_code 9 = .ok (.getfield 27, 3) := by decide +kernel
theorem d_Frame_make_12 : decode prog_6_method_3_code 12 = .ok (.aload_n 2, 1) := by decide +kernel
theorem d_Frame_make_13 : decode prog_6_method_3_code 13 = .ok (.invokevirtual 39, 3) := by decide +kernel
theorem d_Frame_make_16 : decode prog_6_method_3_code 16 = .ok (.aload_n 3, 1) := by decide +kernel
theorem d_Frame_make_17 : decode prog_6_method_3_code 17 = .ok (.aload_n 1, 1) := by decide +kernel
theorem d_Frame_make_18 : decode prog_6_method_3_code 18 = .ok (.aload_n 2, 1) := by decide +kernel
theorem d_Frame_make_19 : decode prog_6_method_3_code 19 = .ok (.invokevirtual 42, 3) := by decide +kernel
theorem d_Frame_make_22 : decode prog_6_method_3_code 22 = .ok (.aload_n 0, 1) := by decide +kernel
theorem d_Frame_make_23 : decode prog_6_method_3_code 23 = .ok (.iconst 0, 1) := by decide +kernel
theorem d_Frame_make_24 : decode prog_6_method_3_code 24 = .ok (.putfield 31, 3) := by decide +kernel
theorem d_Frame_make_27 : decode prog_6_method_3_code 27 = .ok (.iconst 0, 1) := by decide +kernel
theorem d_Frame_make_28 : decode prog_6_method_3_code 28 = .ok (.istore 4, 2) := by decide +kernel
theorem d_Frame_make_30 : decode prog_6_method_3_code 30 = .ok (.iload 4, 2) := by decide +kernel
theorem d_Frame_make_32 : decode prog_6_method_3_code 32 = .ok (.aload_n 3, 1) := by decide +kernel
theorem d_Frame_make_33 : decode prog_6_method_3_code 33 = .ok (.getfield 48, 3) := by decide +kernel
theorem d_Frame_make_36 : decode prog_6_method_3_code 36 = .ok (.if_icmp .ge 46, 3) := by decide +kernel
theorem d_Frame_make_39 : decode prog_6_method_3_code 39 = .ok (.aload_n 0, 1) := by decide +kernel
theorem d_Frame_make_40 : decode prog_6_method_3_code 40 = .ok (.getfield 31, 3) := by decide +kernel
theorem d_Frame_make_43 : decode prog_6_method_3_code 43 = .ok (.bipush 28, 2) := by decide +kernel
theorem d_Frame_make_45 : decode prog_6_method_3_code 45 = .ok (.if_icmp .ge 37, 3) := by decide +kernel
theorem d_Frame_make_48 : decode prog_6_method_3_code 48 = .ok (.aload_n 0, 1) := by decide +kernel
theorem d_Frame_make_49 : decode prog_6_method_3_code 49 = .ok (.getfield 9, 3) := by decide +kernel
theorem d_Frame_make_52 : decode prog_6_method_3_code 52 = .ok (.aload_n 0, 1) := by decide +kernel
theorem d_Frame_make_53 : decode prog_6_method_3_code 53 = .ok (.getfield 31, 3) := by decide +kernel
theorem d_Frame_make_56 : decode prog_6_method_3_code 56 = .ok (.aload_n 3, 1) := by decide +kernel
theorem d_Frame_make_57 : decode prog_6_method_3_code 57 = .ok (.iload 4, 2) := by decide +kernel
theorem d_Frame_make_59 : decode prog_6_method_3_code 59 = .ok (.invokevirtual 51, 3) := by decide +kernel
theorem d_Frame_make_62 : decode prog_6_method_3_code 62 = .ok (.invokestatic 55, 3) := by decide +kernel
theorem d_Frame_make_65 : decode prog_6_method_3_code 65 = .ok (.iastore, 1) := by decide +kernel
theorem d_Frame_make_66 : decode prog_6_method_3_code 66 = .ok (.aload_n 0, 1) := by decide +kernel
theorem d_Frame_make_67 : decode prog_6_method_3_code 67 = .ok (.dup, 1) := by decide +kernel
theorem d_Frame_make_68 : decode prog_6_method_3_code 68 = .ok (.getfield 31, 3) := by decide +kernel
theorem d_Frame_make_71 : decode prog_6_method_3_code 71 = .ok (.iconst 1, 1) := by decide +kernel
theorem d_Frame_make_72 : decode prog_6_method_3_code 72 = .ok (.iadd, 1) := by decide +kernel
theorem d_Frame_make_73 : decode prog_6_method_3_code 73 = .ok (.putfield 31, 3) := by decide +kernel
theorem d_Frame_make_76 : decode prog_6_method_3_code 76 = .ok (.iinc 4 4, 3) := by decide +kernel
theorem d_Frame_make_79 : decode prog_6_method_3_code 79 = .ok (.goto (-49), 3) := by decide +kernel
theorem d_Frame_make_82 : decode prog_6_method_3_code 82 = .ok (.return_, 1) := by decide +kernel
set_option maxHeartbeats 4000000 in
set_option maxRecDepth 20000 in
theorem c_Frame_make {P : xP} {F : xF} {z : Nat} {r : Nat} {k : Nat} {b : Nat → Nat} {tn : Nat} {ts : Nat → Nat} {fw : Nat → Nat} {t : Nat} {n : Nat} {s : Nat → Nat} {c : Nat} {w : Nat → Nat} {q : Nat} {nq : Nat} {fq : Nat → Nat} (hr : xFr F (r) (k) (b) (tn) (ts) (fw)) (ht : xTx F (t) (16) (n) (s)) (hc : xCd F (c) (w) ((hLen w)) ((hVal (hLen w))) ((hOrd (hLen w))) ((hSum w))) (hq : xBt F (q) (nq) (fq)) (hd1 : r + 11 ≤ t ∨ t + 2 ≤ r) (hd2 : r + 11 ≤ c ∨ c + 7 ≤ r) (hd3 : r + 11 ≤ q ∨ q + 2 ≤ r) (hd4 : q + 2 ≤ t ∨ t + 2 ≤ q) (hd5 : q + 2 ≤ c ∨ c + 7 ≤ q) : xM P xy_Frame_make [.ref r, .ref t, .ref c, .ref q] F (z) 0 0 (fun r9 F9 z9 => r9 = none ∧ z9 = z ∧ xFr F9 (r) (((bitsN (hLen w) s n + 3) / 4)) ((fun j => blkN (fourB (bitsN (hLen w) s n) (splB (hLen w) (hVal (hLen w)) s n) 0 (4 * j)))) (n) (s) (w) ∧ xBt F9 (q) ((bitsN (hLen w) s n)) ((splB (hLen w) (hVal (hLen w)) s n)) ∧ xTx F9 (t) (16) (n) (s) ∧ xCd F9 (c) (w) ((hLen w)) ((hVal (hLen w))) ((hOrd (hLen w))) ((hSum w)) ∧ (∀ a9 : Nat, (a9 < r ∨ r + 11 ≤ a9) → (a9 < q ∨ q + 2 ≤ a9) → F9 a9 = F a9)) := by
  refine xM_v rfl (Nat.le_of_ble_eq_true rfl) (L0 := [some (.ref r), some (.ref t), some (.ref c), some (.ref q), none]) rfl rfl fun Θ hC hin hret => ?_
  have hag : ∀ a9 : Nat, (a9 < r ∨ r + 11 ≤ a9) → (a9 < q ∨ q + 2 ≤ a9) → F a9 = F a9 := fun a9 _ _ => rfl
  obtain ⟨h0, hk, ⟨g, h1, hg⟩, h2, h4⟩ := id hr
  have hk28 := hk.1
  refine x_aload_n hC d_Frame_make_0 rfl rfl ?_
  refine x_getf hC kf_Frame_20 h0 rfl d_Frame_make_1 ?_
  refine x_aload_n hC d_Frame_make_4 rfl rfl ?_
  refine x_callV hC kv_Frame_35 (c_Text_copyFrom (ht := h2) (ho := ht) (hsz := ht.2.1.1) (hd := by omega)) h2.1 rfl rfl (by decide) rfl rfl rfl (Nat.le_of_ble_eq_true rfl) (by decide) d_Frame_make_5 (fun r9 F9 z9 hp9 => ?_)
  obtain ⟨rfl, h9c, j0, j1, hag9⟩ := hp9
  rw [h9c]
  clear h9c z9
  generalize F9 = F1 at *
  have h0 : F1 (r) = some (.inl (2, [.ref (r + 1), .ref (r + 2), .ref (r + 4), .int (nI (k))])) := (hag9 _ (by omega)).trans h0
  have h1 : F1 (r + 1) = some (.inr (0, 28, fun b9 => .int (nI (g b9)))) := (hag9 _ (by omega)).trans h1
  have h4 : xCd F1 (r + 4) (fw) ((hLen fw)) ((hVal (hLen fw))) ((hOrd (hLen fw))) ((hSum fw)) := xCd_fr h4 (fun a9 q1 q2 => hag9 a9 (by omega))
  have hc : xCd F1 (c) (w) ((hLen w)) ((hVal (hLen w))) ((hOrd (hLen w))) ((hSum w)) := xCd_fr hc (fun a9 q1 q2 => hag9 a9 (by omega))
  have hq : xBt F1 (q) (nq) (fq) := xBt_fr hq (fun a9 q1 q2 => hag9 a9 (by omega))
  have h2 : xTx F1 ((r + 2)) (16) (n) (s) := j0
  have ht : xTx F1 (t) (16) (n) (s) := j1
  have hag : ∀ a9 : Nat, (a9 < r ∨ r + 11 ≤ a9) → (a9 < q ∨ q + 2 ≤ a9) → F1 a9 = F a9 := fun a9 q0 q1 => (hag9 a9 (by omega)).trans (hag a9 q0 q1)
  have hg_5 := hag9
  clear hag9
  refine x_aload_n hC d_Frame_make_8 rfl rfl ?_
  refine x_getf hC kf_Frame_27 h0 rfl d_Frame_make_9 ?_
  refine x_aload_n hC d_Frame_make_12 rfl rfl ?_
  refine x_callV hC kv_Frame_39 (c_Code_copyFrom (hc := h4) (ho := hc) (hd := by omega)) h4.1 rfl rfl (by decide) rfl rfl rfl (Nat.le_of_ble_eq_true rfl) (by decide) d_Frame_make_13 (fun r9 F9 z9 hp9 => ?_)
  obtain ⟨rfl, h9c, j0, j1, hag9⟩ := hp9
  rw [h9c]
  clear h9c z9
  generalize F9 = F2 at *
  have h0 : F2 (r) = some (.inl (2, [.ref (r + 1), .ref (r + 2), .ref (r + 4), .int (nI (k))])) := (hag9 _ (by omega)).trans h0
  have h1 : F2 (r + 1) = some (.inr (0, 28, fun b9 => .int (nI (g b9)))) := (hag9 _ (by omega)).trans h1
  have hq : xBt F2 (q) (nq) (fq) := xBt_fr hq (fun a9 q1 q2 => hag9 a9 (by omega))
  have h2 : xTx F2 ((r + 2)) (16) (n) (s) := xTx_fr h2 (fun a9 q1 q2 => hag9 a9 (by omega))
  have ht : xTx F2 (t) (16) (n) (s) := xTx_fr ht (fun a9 q1 q2 => hag9 a9 (by omega))
  have h4 : xCd F2 ((r + 4)) (w) ((hLen w)) ((hVal (hLen w))) ((hOrd (hLen w))) ((hSum w)) := j0
  have hc : xCd F2 (c) (w) ((hLen w)) ((hVal (hLen w))) ((hOrd (hLen w))) ((hSum w)) := j1
  have hag : ∀ a9 : Nat, (a9 < r ∨ r + 11 ≤ a9) → (a9 < q ∨ q + 2 ≤ a9) → F2 a9 = F a9 := fun a9 q0 q1 => (hag9 a9 (by omega)).trans (hag a9 q0 q1)
  have hg_13 := hag9
  clear hag9
  refine x_aload_n hC d_Frame_make_16 rfl rfl ?_
  refine x_aload_n hC d_Frame_make_17 rfl rfl ?_
  refine x_aload_n hC d_Frame_make_18 rfl rfl ?_
  refine x_callV hC kv_Frame_42 (c_Bits_spell (hb := hq) (ht := ht) (hc := hc) (hn16 := ht.2.1.1) (hd1 := by omega) (hd2 := by omega)) hq.1 rfl rfl (by decide) rfl rfl rfl (Nat.le_of_ble_eq_true rfl) (by decide) d_Frame_make_19 (fun r9 F9 z9 hp9 => ?_)
  obtain ⟨rfl, h9c, j0, j1, j2, hag9⟩ := hp9
  rw [h9c]
  clear h9c z9
  generalize F9 = F3 at *
  have h0 : F3 (r) = some (.inl (2, [.ref (r + 1), .ref (r + 2), .ref (r + 4), .int (nI (k))])) := (hag9 _ (by omega)).trans h0
  have h1 : F3 (r + 1) = some (.inr (0, 28, fun b9 => .int (nI (g b9)))) := (hag9 _ (by omega)).trans h1
  have h2 : xTx F3 ((r + 2)) (16) (n) (s) := xTx_fr h2 (fun a9 q1 q2 => hag9 a9 (by omega))
  have h4 : xCd F3 ((r + 4)) (w) ((hLen w)) ((hVal (hLen w))) ((hOrd (hLen w))) ((hSum w)) := xCd_fr h4 (fun a9 q1 q2 => hag9 a9 (by omega))
  have hq : xBt F3 (q) ((bitsN (hLen w) s n)) ((splB (hLen w) (hVal (hLen w)) s n)) := j0
  have ht : xTx F3 (t) (16) (n) (s) := j1
  have hc : xCd F3 (c) (w) ((hLen w)) ((hVal (hLen w))) ((hOrd (hLen w))) ((hSum w)) := j2
  have hag : ∀ a9 : Nat, (a9 < r ∨ r + 11 ≤ a9) → (a9 < q ∨ q + 2 ≤ a9) → F3 a9 = F a9 := fun a9 q0 q1 => (hag9 a9 (by omega)).trans (hag a9 q0 q1)
  have hg_19 := hag9
  clear hag9
  have hb112 := hq.2.1
  have hbf := hq.2.2.1
  refine x_aload_n hC d_Frame_make_22 rfl rfl ?_
  refine x_iconst hC d_Frame_make_23 (v := nI 0) (by decide) ?_
  refine x_putf hC kf_Frame_31 h0 (Nat.le_of_ble_eq_true rfl) rfl rfl d_Frame_make_24 (fs1 := [.ref (r + 1), .ref (r + 2), .ref (r + 4), .int (nI 0)]) rfl ?_
  generalize e4 : xup F3 (r) (.inl (2, [.ref (r + 1), .ref (r + 2), .ref (r + 4), .int (nI 0)])) = F4
  have h0 : F4 (r) = some (.inl (2, [.ref (r + 1), .ref (r + 2), .ref (r + 4), .int (nI 0)])) := by rw [← e4]; exact xup_eq
  have h1 : F4 (r + 1) = some (.inr (0, 28, fun b9 => .int (nI (g b9)))) := by rw [← e4]; exact (xup_ne (by omega)).trans h1
  have h2 : xTx F4 ((r + 2)) (16) (n) (s) := xTx_fr h2 (fun a9 q1 q2 => by rw [← e4]; exact xup_ne (by omega))
  have h4 : xCd F4 ((r + 4)) (w) ((hLen w)) ((hVal (hLen w))) ((hOrd (hLen w))) ((hSum w)) := xCd_fr h4 (fun a9 q1 q2 => by rw [← e4]; exact xup_ne (by omega))
  have hq : xBt F4 (q) ((bitsN (hLen w) s n)) ((splB (hLen w) (hVal (hLen w)) s n)) := xBt_fr hq (fun a9 q1 q2 => by rw [← e4]; exact xup_ne (by omega))
  have ht : xTx F4 (t) (16) (n) (s) := xTx_fr ht (fun a9 q1 q2 => by rw [← e4]; exact xup_ne (by omega))
  have hc : xCd F4 (c) (w) ((hLen w)) ((hVal (hLen w))) ((hOrd (hLen w))) ((hSum w)) := xCd_fr hc (fun a9 q1 q2 => by rw [← e4]; exact xup_ne (by omega))
  have hag : ∀ a9 : Nat, (a9 < r ∨ r + 11 ≤ a9) → (a9 < q ∨ q + 2 ≤ a9) → F4 a9 = F a9 := fun a9 q0 q1 => by rw [← e4]; exact (xup_ne (by omega)).trans (hag a9 q0 q1)
  refine x_iconst hC d_Frame_make_27 (v := nI 0) (by decide) ?_
  refine x_istore hC d_Frame_make_28 (Nat.le_of_ble_eq_true rfl) (L1 := [some (.ref r), some (.ref t), some (.ref c), some (.ref q), some (.int (nI 0))]) rfl ?_
  have loop_30 : ∀ (m9 : Nat) (Fh30 : xF) (i : Nat) (g1 : Nat → Nat), (Fh30 (r) = some (.inl (2, [.ref (r + 1), .ref (r + 2), .ref (r + 4), .int (nI (i))]))) → (Fh30 (r + 1) = some (.inr (0, 28, fun b9 => .int (nI (g1 b9))))) → (xTx Fh30 (r + 2) (16) (n) (s)) → (xCd Fh30 (r + 4) (w) ((hLen w)) ((hVal (hLen w))) ((hOrd (hLen w))) ((hSum w))) → (xTx Fh30 (t) (16) (n) (s)) → (xCd Fh30 (c) (w) ((hLen w)) ((hVal (hLen w))) ((hOrd (hLen w))) ((hSum w))) → (xBt Fh30 (q) ((bitsN (hLen w) s n)) ((splB (hLen w) (hVal (hLen w)) s n))) → (∀ a9 : Nat, (a9 < r ∨ r + 11 ≤ a9) → (a9 < q ∨ q + 2 ≤ a9) → Fh30 a9 = F a9) → (i ≤ (bitsN (hLen w) s n + 3) / 4) → (∀ j, j < i → g1 j = blkN (fourB (bitsN (hLen w) s n) (splB (hLen w) (hVal (hLen w)) s n) 0 (4 * j))) → (29 - i < m9) → xX P Θ 30 [some (.ref r), some (.ref t), some (.ref c), some (.ref q), some (.int (nI (4 * i)))] [] Fh30 (z) 0 0 := by
    intro m9
    induction m9 with
    | zero => intros; omega
    | succ m9 ih_30 =>
      intro Fh30 i g1 h0 h1 h2 h4 ht hc hq hag hi kz hm_30
      refine x_iload hC d_Frame_make_30 rfl ?_
      refine x_aload_n hC d_Frame_make_32 rfl rfl ?_
      refine x_getf hC kf_Frame_48 hq.1 rfl d_Frame_make_33 ?_
      refine x_icmpN_ge hC d_Frame_make_36 (tgt := 82) (by decide) (by omega) (by omega) (fun c_36 => ?_) (fun c_36 => ?_)
      · skip
        refine hret _ _ _ _ _ _ d_Frame_make_82 (by decide) (by decide) ?_
        have hie : i = (bitsN (hLen w) s n + 3) / 4 := by omega
        exact ⟨rfl, rfl, by rw [← hie]; exact ⟨h0, ⟨by omega, fun j hj => blk_lt _ (by have := fourB_le hbf 0 (4 * j); omega)⟩, ⟨g1, h1, kz⟩, h2, h4⟩, hq, ht, hc, hag⟩
      · skip
        refine x_aload_n hC d_Frame_make_39 rfl rfl ?_
        refine x_getf hC kf_Frame_31 h0 rfl d_Frame_make_40 ?_
        refine x_bipush hC d_Frame_make_43 (v := nI 28) (by decide) ?_
        refine x_icmpN_ge hC d_Frame_make_45 (tgt := 82) (by decide) (by omega) (by omega) (fun c_45 => ?_) (fun c_45 => ?_)
        · skip
          refine hret _ _ _ _ _ _ d_Frame_make_82 (by decide) (by decide) ?_
          have hie : i = (bitsN (hLen w) s n + 3) / 4 := by omega
          exact ⟨rfl, rfl, by rw [← hie]; exact ⟨h0, ⟨by omega, fun j hj => blk_lt _ (by have := fourB_le hbf 0 (4 * j); omega)⟩, ⟨g1, h1, kz⟩, h2, h4⟩, hq, ht, hc, hag⟩
        · skip
          refine x_aload_n hC d_Frame_make_48 rfl rfl ?_
          refine x_getf hC kf_Frame_9 h0 rfl d_Frame_make_49 ?_
          refine x_aload_n hC d_Frame_make_52 rfl rfl ?_
          refine x_getf hC kf_Frame_31 h0 rfl d_Frame_make_53 ?_
          refine x_aload_n hC d_Frame_make_56 rfl rfl ?_
          refine x_iload hC d_Frame_make_57 rfl ?_
          refine x_top (v := (nI (4 * i) - nI 0)) (x_sub0 _) ?_
          refine x_callV hC kv_Frame_51 (c_Bits_fourFrom (hb := hq) (hq := by omega) (hlz := by omega) (q := 4 * i) (lz := 0)) hq.1 rfl rfl (by decide) rfl rfl rfl (Nat.le_of_ble_eq_true rfl) (by decide) d_Frame_make_59 (fun r9 F9 z9 hp9 => ?_)
          obtain ⟨rfl, h9b, h9c⟩ := hp9
          rw [h9b, h9c]
          clear h9b h9c F9 z9
          have hf15 := fourB_le hbf 0 (4 * i)
          refine x_callS hC ks_Frame_55 (c_Frame_blockFor (hd := by omega)) (by decide) rfl rfl rfl (Nat.le_of_ble_eq_true rfl) (by decide) d_Frame_make_62 (fun r9 F9 z9 hp9 => ?_)
          obtain ⟨rfl, h9b, h9c⟩ := hp9
          rw [h9b, h9c]
          clear h9b h9c F9 z9
          refine x_iast hC h1 (j := i) ⟨rfl, by omega, by omega⟩ d_Frame_make_65 (g1 := fun b9 => nI (updN g1 (i) (blkN (fourB (bitsN (hLen w) s n) (splB (hLen w) (hVal (hLen w)) s n) 0 (4 * i))) b9)) (x_updN _ _ _) ?_
          generalize eq1 : updN g1 (i) (blkN (fourB (bitsN (hLen w) s n) (splB (hLen w) (hVal (hLen w)) s n) 0 (4 * i))) = q1
          generalize e6 : xup Fh30 (r + 1) (.inr (0, 28, fun b9 => .int (nI (q1 b9)))) = F6
          have h0 : F6 (r) = some (.inl (2, [.ref (r + 1), .ref (r + 2), .ref (r + 4), .int (nI (i))])) := by rw [← e6]; exact (xup_ne (by omega)).trans h0
          have h1 : F6 (r + 1) = some (.inr (0, 28, fun b9 => .int (nI (q1 b9)))) := by rw [← e6]; exact xup_eq
          have h2 : xTx F6 (r + 2) (16) (n) (s) := xTx_fr h2 (fun a9 q1 q2 => by rw [← e6]; exact xup_ne (by omega))
          have h4 : xCd F6 (r + 4) (w) ((hLen w)) ((hVal (hLen w))) ((hOrd (hLen w))) ((hSum w)) := xCd_fr h4 (fun a9 q1 q2 => by rw [← e6]; exact xup_ne (by omega))
          have ht : xTx F6 (t) (16) (n) (s) := xTx_fr ht (fun a9 q1 q2 => by rw [← e6]; exact xup_ne (by omega))
          have hc : xCd F6 (c) (w) ((hLen w)) ((hVal (hLen w))) ((hOrd (hLen w))) ((hSum w)) := xCd_fr hc (fun a9 q1 q2 => by rw [← e6]; exact xup_ne (by omega))
          have hq : xBt F6 (q) ((bitsN (hLen w) s n)) ((splB (hLen w) (hVal (hLen w)) s n)) := xBt_fr hq (fun a9 q1 q2 => by rw [← e6]; exact xup_ne (by omega))
          have hag : ∀ a9 : Nat, (a9 < r ∨ r + 11 ≤ a9) → (a9 < q ∨ q + 2 ≤ a9) → F6 a9 = F a9 := fun a9 q0 q1 => by rw [← e6]; exact (xup_ne (by omega)).trans (hag a9 q0 q1)
          refine x_aload_n hC d_Frame_make_66 rfl rfl ?_
          refine x_dup hC d_Frame_make_67 rfl ?_
          refine x_getf hC kf_Frame_31 h0 rfl d_Frame_make_68 ?_
          refine x_iconst hC d_Frame_make_71 (v := nI 1) (by decide) ?_
          refine x_iadd hC d_Frame_make_72 (v := (nI (i + 1))) (x_addN (by omega)) ?_
          refine x_putf hC kf_Frame_31 h0 (Nat.le_of_ble_eq_true rfl) rfl rfl d_Frame_make_73 (fs1 := [.ref (r + 1), .ref (r + 2), .ref (r + 4), .int (nI (i + 1))]) rfl ?_
          generalize e7 : xup F6 (r) (.inl (2, [.ref (r + 1), .ref (r + 2), .ref (r + 4), .int (nI (i + 1))])) = F7
          have h0 : F7 (r) = some (.inl (2, [.ref (r + 1), .ref (r + 2), .ref (r + 4), .int (nI (i + 1))])) := by rw [← e7]; exact xup_eq
          have h1 : F7 (r + 1) = some (.inr (0, 28, fun b9 => .int (nI (q1 b9)))) := by rw [← e7]; exact (xup_ne (by omega)).trans h1
          have h2 : xTx F7 (r + 2) (16) (n) (s) := xTx_fr h2 (fun a9 q1 q2 => by rw [← e7]; exact xup_ne (by omega))
          have h4 : xCd F7 (r + 4) (w) ((hLen w)) ((hVal (hLen w))) ((hOrd (hLen w))) ((hSum w)) := xCd_fr h4 (fun a9 q1 q2 => by rw [← e7]; exact xup_ne (by omega))
          have ht : xTx F7 (t) (16) (n) (s) := xTx_fr ht (fun a9 q1 q2 => by rw [← e7]; exact xup_ne (by omega))
          have hc : xCd F7 (c) (w) ((hLen w)) ((hVal (hLen w))) ((hOrd (hLen w))) ((hSum w)) := xCd_fr hc (fun a9 q1 q2 => by rw [← e7]; exact xup_ne (by omega))
          have hq : xBt F7 (q) ((bitsN (hLen w) s n)) ((splB (hLen w) (hVal (hLen w)) s n)) := xBt_fr hq (fun a9 q1 q2 => by rw [← e7]; exact xup_ne (by omega))
          have hag : ∀ a9 : Nat, (a9 < r ∨ r + 11 ≤ a9) → (a9 < q ∨ q + 2 ≤ a9) → F7 a9 = F a9 := fun a9 q0 q1 => by rw [← e7]; exact (xup_ne (by omega)).trans (hag a9 q0 q1)
          refine x_iinc hC d_Frame_make_76 rfl (v := (nI (4 * i + 4))) (x_incN 4) (Nat.le_of_ble_eq_true rfl) (L1 := [some (.ref r), some (.ref t), some (.ref c), some (.ref q), some (.int (nI (4 * i + 4)))]) rfl ?_
          refine x_goto hC d_Frame_make_79 (tgt := 30) (by decide) ?_
          exact ih_30 F7 (i + 1) (q1) h0 h1 h2 h4 ht hc hq hag (by omega) (fun j hj => (Nat.lt_or_ge j i).elim (fun e => by rw [← eq1, updN_ne (by omega)]; exact kz j e) (fun e => by rw [← eq1, show j = i by omega, updN_eq])) (by omega)
  exact loop_30 (29 - 0 + 1) F4 (0) (g) h0 h1 h2 h4 ht hc hq hag (by omega) (fun _ hq9 => absurd hq9 (by omega)) (by omega)

theorem d_Frame_init_0 : decode prog_6_method_1_code 0 = .ok (.aload_n 0, 1) := by decide +kernel
theorem d_Frame_init_1 : decode prog_6_method_1_code 1 = .ok (.invokespecial 3, 3) := by decide +kernel
theorem d_Frame_init_4 : decode prog_6_method_1_code 4 = .ok (.aload_n 0, 1) := by decide +kernel
theorem d_Frame_init_5 : decode prog_6_method_1_code 5 = .ok (.bipush 28, 2) := by decide +kernel
theorem d_Frame_init_7 : decode prog_6_method_1_code 7 = .ok (.newarray .int, 2) := by decide +kernel
theorem d_Frame_init_9 : decode prog_6_method_1_code 9 = .ok (.putfield 9, 3) := by decide +kernel
theorem d_Frame_init_12 : decode prog_6_method_1_code 12 = .ok (.aload_n 0, 1) := by decide +kernel
theorem d_Frame_init_13 : decode prog_6_method_1_code 13 = .ok (.new 15, 3) := by decide +kernel
theorem d_Frame_init_16 : decode prog_6_method_1_code 16 = .ok (.dup, 1) := by decide +kernel
theorem d_Frame_init_17 : decode prog_6_method_1_code 17 = .ok (.bipush 16, 2) := by decide +kernel
theorem d_Frame_init_19 : decode prog_6_method_1_code 19 = .ok (.invokespecial 17, 3) := by decide +kernel
theorem d_Frame_init_22 : decode prog_6_method_1_code 22 = .ok (.putfield 20, 3) := by decide +kernel
theorem d_Frame_init_25 : decode prog_6_method_1_code 25 = .ok (.aload_n 0, 1) := by decide +kernel
theorem d_Frame_init_26 : decode prog_6_method_1_code 26 = .ok (.new 24, 3) := by decide +kernel
theorem d_Frame_init_29 : decode prog_6_method_1_code 29 = .ok (.dup, 1) := by decide +kernel
theorem d_Frame_init_30 : decode prog_6_method_1_code 30 = .ok (.invokespecial 26, 3) := by decide +kernel
theorem d_Frame_init_33 : decode prog_6_method_1_code 33 = .ok (.putfield 27, 3) := by decide +kernel
theorem d_Frame_init_36 : decode prog_6_method_1_code 36 = .ok (.return_, 1) := by decide +kernel
set_option maxHeartbeats 4000000 in
set_option maxRecDepth 20000 in
theorem c_Frame_init {P : xP} {F : xF} {r : Nat} (h0 : F (r) = some (.inl (2, [.null, .null, .null, .int (nI 0)])))  : xM P xy_Frame_init [.ref r] F (r + 1) 10 101 (fun r9 F9 z9 => r9 = none ∧ z9 = r + 11 ∧ xFr F9 (r) (0) ((fun _ => 0)) (0) ((fun _ => 0)) ((fun _ => 1)) ∧ (∀ a9 : Nat, (a9 < r ∨ r + 11 ≤ a9) → F9 a9 = F a9)) := by
  refine xM_v rfl (Nat.le_of_ble_eq_true rfl) (L0 := [some (.ref r)]) rfl rfl fun Θ hC hin hret => ?_
  have hag : ∀ a9 : Nat, (a9 < r ∨ r + 11 ≤ a9) → F a9 = F a9 := fun a9 _ => rfl
  refine x_aload_n hC d_Frame_init_0 rfl rfl ?_
  refine x_objInit hC ko_Frame_3 rfl (by decide) (Nat.le_of_ble_eq_true rfl) d_Frame_init_1 ?_
  refine x_aload_n hC d_Frame_init_4 rfl rfl ?_
  refine x_bipush hC d_Frame_init_5 (v := nI 28) (by decide) ?_
  refine x_newa hC (t := 0) rfl (by decide) (by decide) (x_in (x_of (xtb_1 (List.mem_of_getElem? (i := 109) (by decide +kernel)))) (by decide +kernel)) rfl (by omega) (by decide) (by decide) (f1 := fun b9 => .int (nI ((fun _ => 0) b9))) rfl d_Frame_init_7 ?_
  generalize e1 : xup F (r + 1) (.inr (0, 28, fun b9 => .int (nI ((fun _ => 0) b9)))) = F1
  have h0 : F1 (r) = some (.inl (2, [.null, .null, .null, .int (nI 0)])) := by rw [← e1]; exact (xup_ne (by omega)).trans h0
  have h1 : F1 (r + 1) = some (.inr (0, 28, fun b9 => .int (nI ((fun _ => 0) b9)))) := by rw [← e1]; exact xup_eq
  have hag : ∀ a9 : Nat, (a9 < r ∨ r + 11 ≤ a9) → F1 a9 = F a9 := fun a9 q0 => by rw [← e1]; exact (xup_ne (by omega)).trans (hag a9 q0)
  refine x_putF hC hin kk_Frame_9 h0 (Nat.le_of_ble_eq_true rfl) rfl rfl d_Frame_init_9 (fs1 := [.ref (r + 1), .null, .null, .int (nI 0)]) rfl ?_
  generalize e2 : xup F1 (r) (.inl (2, [.ref (r + 1), .null, .null, .int (nI 0)])) = F2
  have h0 : F2 (r) = some (.inl (2, [.ref (r + 1), .null, .null, .int (nI 0)])) := by rw [← e2]; exact xup_eq
  have h1 : F2 (r + 1) = some (.inr (0, 28, fun b9 => .int (nI ((fun _ => 0) b9)))) := by rw [← e2]; exact (xup_ne (by omega)).trans h1
  have hag : ∀ a9 : Nat, (a9 < r ∨ r + 11 ≤ a9) → F2 a9 = F a9 := fun a9 q0 => by rw [← e2]; exact (xup_ne (by omega)).trans (hag a9 q0)
  refine x_aload_n hC d_Frame_init_12 rfl rfl ?_
  refine x_new hC (fs := [.null, .int (nI 0)]) kn_Frame_15 (by decide) d_Frame_init_13 ?_
  generalize e3 : xup F2 (r + 2) (.inl (8, [.null, .int (nI 0)])) = F3
  have h0 : F3 (r) = some (.inl (2, [.ref (r + 1), .null, .null, .int (nI 0)])) := by rw [← e3]; exact (xup_ne (by omega)).trans h0
  have h1 : F3 (r + 1) = some (.inr (0, 28, fun b9 => .int (nI ((fun _ => 0) b9)))) := by rw [← e3]; exact (xup_ne (by omega)).trans h1
  have h2 : F3 (r + 2) = some (.inl (8, [.null, .int (nI 0)])) := by rw [← e3]; exact xup_eq
  have hag : ∀ a9 : Nat, (a9 < r ∨ r + 11 ≤ a9) → F3 a9 = F a9 := fun a9 q0 => by rw [← e3]; exact (xup_ne (by omega)).trans (hag a9 q0)
  refine x_dup hC d_Frame_init_16 rfl ?_
  refine x_bipush hC d_Frame_init_17 (v := nI 16) (by decide) ?_
  refine x_callI hC ki_Frame_17 rfl (c_Text_init16 (h0 := h2)) (by decide) rfl rfl rfl (Nat.le_of_ble_eq_true rfl) (by decide) d_Frame_init_19 (fun r9 F9 z9 hp9 => ?_)
  obtain ⟨rfl, h9c, j0, hag9⟩ := hp9
  rw [h9c]
  clear h9c z9
  generalize F9 = F4 at *
  have h0 : F4 (r) = some (.inl (2, [.ref (r + 1), .null, .null, .int (nI 0)])) := (hag9 _ (by omega)).trans h0
  have h1 : F4 (r + 1) = some (.inr (0, 28, fun b9 => .int (nI ((fun _ => 0) b9)))) := (hag9 _ (by omega)).trans h1
  have h2 : xTx F4 ((r + 2)) (16) (0) ((fun _ => 0)) := j0
  have hag : ∀ a9 : Nat, (a9 < r ∨ r + 11 ≤ a9) → F4 a9 = F a9 := fun a9 q0 => (hag9 a9 (by omega)).trans (hag a9 q0)
  have hg_19 := hag9
  clear hag9
  refine x_putF hC hin kk_Frame_20 h0 (Nat.le_of_ble_eq_true rfl) rfl rfl d_Frame_init_22 (fs1 := [.ref (r + 1), .ref (r + 2), .null, .int (nI 0)]) rfl ?_
  generalize e5 : xup F4 (r) (.inl (2, [.ref (r + 1), .ref (r + 2), .null, .int (nI 0)])) = F5
  have h0 : F5 (r) = some (.inl (2, [.ref (r + 1), .ref (r + 2), .null, .int (nI 0)])) := by rw [← e5]; exact xup_eq
  have h1 : F5 (r + 1) = some (.inr (0, 28, fun b9 => .int (nI ((fun _ => 0) b9)))) := by rw [← e5]; exact (xup_ne (by omega)).trans h1
  have h2 : xTx F5 ((r + 2)) (16) (0) ((fun _ => 0)) := xTx_fr h2 (fun a9 q1 q2 => by rw [← e5]; exact xup_ne (by omega))
  have hag : ∀ a9 : Nat, (a9 < r ∨ r + 11 ≤ a9) → F5 a9 = F a9 := fun a9 q0 => by rw [← e5]; exact (xup_ne (by omega)).trans (hag a9 q0)
  refine x_aload_n hC d_Frame_init_25 rfl rfl ?_
  refine x_new hC (fs := [.null, .null, .null, .null, .null, .null, .int (nI 0)]) kn_Frame_24 (by decide) d_Frame_init_26 ?_
  generalize e6 : xup F5 (r + 4) (.inl (1, [.null, .null, .null, .null, .null, .null, .int (nI 0)])) = F6
  have h0 : F6 (r) = some (.inl (2, [.ref (r + 1), .ref (r + 2), .null, .int (nI 0)])) := by rw [← e6]; exact (xup_ne (by omega)).trans h0
  have h1 : F6 (r + 1) = some (.inr (0, 28, fun b9 => .int (nI ((fun _ => 0) b9)))) := by rw [← e6]; exact (xup_ne (by omega)).trans h1
  have h2 : xTx F6 ((r + 2)) (16) (0) ((fun _ => 0)) := xTx_fr h2 (fun a9 q1 q2 => by rw [← e6]; exact xup_ne (by omega))
  have h4 : F6 (r + 4) = some (.inl (1, [.null, .null, .null, .null, .null, .null, .int (nI 0)])) := by rw [← e6]; exact xup_eq
  have hag : ∀ a9 : Nat, (a9 < r ∨ r + 11 ≤ a9) → F6 a9 = F a9 := fun a9 q0 => by rw [← e6]; exact (xup_ne (by omega)).trans (hag a9 q0)
  refine x_dup hC d_Frame_init_29 rfl ?_
  refine x_callI hC ki_Frame_26 rfl (c_Code_init (h0 := h4)) (by decide) rfl rfl rfl (Nat.le_of_ble_eq_true rfl) (by decide) d_Frame_init_30 (fun r9 F9 z9 hp9 => ?_)
  obtain ⟨rfl, h9c, j0, hag9⟩ := hp9
  rw [h9c]
  clear h9c z9
  generalize F9 = F7 at *
  have h0 : F7 (r) = some (.inl (2, [.ref (r + 1), .ref (r + 2), .null, .int (nI 0)])) := (hag9 _ (by omega)).trans h0
  have h1 : F7 (r + 1) = some (.inr (0, 28, fun b9 => .int (nI ((fun _ => 0) b9)))) := (hag9 _ (by omega)).trans h1
  have h2 : xTx F7 ((r + 2)) (16) (0) ((fun _ => 0)) := xTx_fr h2 (fun a9 q1 q2 => hag9 a9 (by omega))
  have h4 : xCd F7 ((r + 4)) ((fun _ => 1)) ((hLen (fun _ => 1))) ((hVal (hLen (fun _ => 1)))) ((hOrd (hLen (fun _ => 1)))) ((hSum (fun _ => 1))) := j0
  have hag : ∀ a9 : Nat, (a9 < r ∨ r + 11 ≤ a9) → F7 a9 = F a9 := fun a9 q0 => (hag9 a9 (by omega)).trans (hag a9 q0)
  have hg_30 := hag9
  clear hag9
  refine x_putF hC hin kk_Frame_27 h0 (Nat.le_of_ble_eq_true rfl) rfl rfl d_Frame_init_33 (fs1 := [.ref (r + 1), .ref (r + 2), .ref (r + 4), .int (nI 0)]) rfl ?_
  generalize e8 : xup F7 (r) (.inl (2, [.ref (r + 1), .ref (r + 2), .ref (r + 4), .int (nI 0)])) = F8
  have h0 : F8 (r) = some (.inl (2, [.ref (r + 1), .ref (r + 2), .ref (r + 4), .int (nI 0)])) := by rw [← e8]; exact xup_eq
  have h1 : F8 (r + 1) = some (.inr (0, 28, fun b9 => .int (nI ((fun _ => 0) b9)))) := by rw [← e8]; exact (xup_ne (by omega)).trans h1
  have h2 : xTx F8 ((r + 2)) (16) (0) ((fun _ => 0)) := xTx_fr h2 (fun a9 q1 q2 => by rw [← e8]; exact xup_ne (by omega))
  have h4 : xCd F8 ((r + 4)) ((fun _ => 1)) ((hLen (fun _ => 1))) ((hVal (hLen (fun _ => 1)))) ((hOrd (hLen (fun _ => 1)))) ((hSum (fun _ => 1))) := xCd_fr h4 (fun a9 q1 q2 => by rw [← e8]; exact xup_ne (by omega))
  have hag : ∀ a9 : Nat, (a9 < r ∨ r + 11 ≤ a9) → F8 a9 = F a9 := fun a9 q0 => by rw [← e8]; exact (xup_ne (by omega)).trans (hag a9 q0)
  exact hret _ _ _ _ _ _ d_Frame_init_36 (by decide) (by decide) (⟨rfl, rfl, ⟨h0, ⟨Nat.zero_le _, fun j hj => absurd hj (by omega)⟩, ⟨_, h1, fun j hj => absurd hj (by omega)⟩, h2, h4⟩, hag⟩)

