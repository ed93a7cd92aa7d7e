/-! the reference: its frame -/
theorem bitP_2 (x p : Nat) : bitP x p < 2 := Nat.mod_lt _ (by decide)
theorem syn_sum : ∀ x, x < 128 → (bitP x 1 + bitP x 3 + bitP x 5 + bitP x 7) % 2 + 2 * ((bitP x 2 + bitP x 3 + bitP x 6 + bitP x 7) % 2) + 4 * ((bitP x 4 + bitP x 5 + bitP x 6 + bitP x 7) % 2) = syn x := by decide +kernel
theorem cor_bit : ∀ x, x < 128 → ∀ u, u < 7 → bitP x (u + 1) ^^^ (if syn x = u + 1 then 1 else 0) = bitP (corN x) (u + 1) := by decide +kernel
theorem num_dat : ∀ x, x < 128 → 8 * bitP x 3 + 4 * bitP x 5 + 2 * bitP x 6 + bitP x 7 = datN x := by decide +kernel
theorem cntN_up {p : Nat → Bool} {a : Nat} : ∀ d, cntN p a ≤ cntN p (a + d)
  | 0 => Nat.le_refl _
  | d + 1 => Nat.le_trans (cntN_up d) (Nat.le_add_right _ _)
theorem hVal_inj {ln : Nat → Nat} {i j : Nat} (hi : i < 8) (hj : j < 8) (hl : ln i = ln j) (hv : hVal ln i = hVal ln j) : i = j := by
  have key : ∀ a b, a < b → b < 8 → ln a = ln b → hVal ln a < hVal ln b := fun a b hab hb he => by
    have h1 := val_lvl (ln := ln) (s := a) (l := ln b) (by omega) he
    have h2 := val_lvl (ln := ln) (s := b) (l := ln b) hb rfl
    have h3 := cntN_up (p := fun i => decide (ln i = ln b)) (a := a + 1) (b - (a + 1))
    rw [show a + 1 + (b - (a + 1)) = b by omega, cntN_t (p := fun i => decide (ln i = ln b)) (k := a) (decide_eq_true he)] at h3
    omega
  rcases Nat.lt_trichotomy i j with h | h | h
  · have := key i j h hj hl
    omega
  · exact h
  · have := key j i h hi hl.symm
    omega
theorem symI_sp (ln vl : Nat → Nat) (v : Int32) (l : Nat) : ∀ k, k ≤ 8 → symI ln vl v l k < 8 → symI ln vl v l k < k ∧ ln (symI ln vl v l k) = l ∧ nI (vl (symI ln vl v l k)) = v
  | 0, _, h => absurd h (by show ¬ 8 < 8; omega)
  | k + 1, hk, h => by
    have ih := symI_sp ln vl v l k (by omega)
    unfold symI at h ⊢
    split
    · rename_i h1
      have := ih h1
      exact ⟨by omega, this.2⟩
    · rename_i h1
      rw [if_neg h1] at h
      split
      · rename_i h2
        exact ⟨by omega, h2⟩
      · rename_i h2
        rw [if_neg h2] at h
        omega
theorem shl_1 (a : Nat) : nI a <<< (nI 1 &&& 31) = nI (a * 2) := by
  apply Int32.toBitVec_inj.mp
  rw [Int32.toBitVec_shiftLeft, show ((nI 1 &&& 31).toBitVec.smod 32) = 1#32 by decide]
  apply BitVec.eq_of_toNat_eq
  show ((BitVec.ofNat 32 a) <<< (1#32)).toNat = (BitVec.ofNat 32 (a * 2)).toNat
  rw [BitVec.shiftLeft_eq', BitVec.toNat_shiftLeft, BitVec.toNat_ofNat, BitVec.toNat_ofNat, Nat.shiftLeft_eq]
  show a % 2 ^ 32 * 2 % 2 ^ 32 = a * 2 % 2 ^ 32
  omega
theorem dec_eq (v : Int32) {x : Nat} (hx : x < 2) : nI 2 * v + nI x = decV v x := by
  have hv : v = nI v.toBitVec.toNat := by
    apply Int32.toBitVec_inj.mp
    show v.toBitVec = BitVec.ofNat 32 v.toBitVec.toNat
    simp
  rw [hv]
  generalize v.toBitVec.toNat = a
  unfold decV
  rw [shl_1, x_or2 hx, pk_mul, nI_add, Nat.mul_comm]
theorem decS_le (ln vl b : Nat → Nat) (tn : Nat) : ∀ i, (decS ln vl b tn i).2.2.1 ≤ tn
  | 0 => Nat.zero_le _
  | i + 1 => by
    have ih := decS_le ln vl b tn i
    show (decT ln vl tn (datB b i) (decS ln vl b tn i)).2.2.1 ≤ tn
    unfold decT
    split
    · split
      · show _ + 1 ≤ tn; omega
      · exact ih
    · exact ih
theorem decS_sy (ln vl b : Nat → Nat) (tn : Nat) : ∀ i j, j < (decS ln vl b tn i).2.2.1 → isSy ((decS ln vl b tn i).2.2.2 j)
  | 0, j, h => absurd h (Nat.not_lt_zero j)
  | i + 1, j, h => by
    have ih := decS_sy ln vl b tn i j
    change isSy ((decT ln vl tn (datB b i) (decS ln vl b tn i)).2.2.2 j)
    change j < (decT ln vl tn (datB b i) (decS ln vl b tn i)).2.2.1 at h
    unfold decT at h ⊢
    split
    · rename_i h1
      rw [if_pos h1] at h
      split
      · rename_i h2
        rw [if_pos h2] at h
        change j < (decS ln vl b tn i).2.2.1 + 1 at h
        by_cases e : j = (decS ln vl b tn i).2.2.1
        · subst e
          show isSy (updN _ _ _ _)
          rw [updN_eq]
          exact ⟨by omega, by omega⟩
        · show isSy (updN _ _ _ j)
          rw [updN_ne e]
          exact ih (by omega)
      · rename_i h2
        rw [if_neg h2] at h
        exact ih h
    · rename_i h1
      rw [if_neg h1] at h
      exact ih h
theorem eqTo_s (s u : Nat → Nat) (n : Nat) : eqTo s u (n + 1) = true ↔ eqTo s u n = true ∧ s n = u n := by
  show (eqTo s u n && s n == u n) = true ↔ _
  rw [Bool.and_eq_true, beq_iff_eq]
theorem xb_and {p q : Prop} [Decidable p] [Decidable q] : xb p &&& xb q = xb (p ∧ q) := by
  by_cases h1 : p <;> by_cases h2 : q <;> simp [xb, h1, h2]

theorem d_MessageCoderModel_fb_0 : decode prog_14_method_21_code 0 = .ok (.aload_n 0, 1) := by decide +kernel
theorem d_MessageCoderModel_fb_1 : decode prog_14_method_21_code 1 = .ok (.getfield 9, 3) := by decide +kernel
theorem d_MessageCoderModel_fb_4 : decode prog_14_method_21_code 4 = .ok (.sipush 234, 3) := by decide +kernel
theorem d_MessageCoderModel_fb_7 : decode prog_14_method_21_code 7 = .ok (.bipush 7, 2) := by decide +kernel
theorem d_MessageCoderModel_fb_9 : decode prog_14_method_21_code 9 = .ok (.iload_n 1, 1) := by decide +kernel
theorem d_MessageCoderModel_fb_10 : decode prog_14_method_21_code 10 = .ok (.imul, 1) := by decide +kernel
theorem d_MessageCoderModel_fb_11 : decode prog_14_method_21_code 11 = .ok (.iadd, 1) := by decide +kernel
theorem d_MessageCoderModel_fb_12 : decode prog_14_method_21_code 12 = .ok (.iload_n 2, 1) := by decide +kernel
theorem d_MessageCoderModel_fb_13 : decode prog_14_method_21_code 13 = .ok (.iadd, 1) := by decide +kernel
theorem d_MessageCoderModel_fb_14 : decode prog_14_method_21_code 14 = .ok (.iaload, 1) := by decide +kernel
theorem d_MessageCoderModel_fb_15 : decode prog_14_method_21_code 15 = .ok (.ireturn, 1) := by decide +kernel
set_option maxHeartbeats 4000000 in
set_option maxRecDepth 20000 in
theorem c_MessageCoderModel_fb {P : xP} {F : xF} {z : Nat} {m : Nat} {th : Nat} {ch : Nat} {sv : Nat} {rs : Int32} {bm : Nat} {dm : Nat} {lz : Nat} {ty : Nat} {he : Nat} {er : Int32} {ea : Int32} {fa : Int32} {cn : Nat} {g : Nat → Nat} {A : aS} {b : Nat} {u : Nat} (o0 : F (m) = some (.inl (10, [.int (nI (th)), .ref (m + 1), .int (nI (ch)), .int (nI (sv)), .int rs, .ref (m + 2), .ref (m + 3), .ref (m + 4), .ref (m + 5), .ref (m + 6), .int (nI (bm)), .ref (m + 7), .int (nI (dm)), .ref (m + 8), .ref (m + 9), .int (nI (lz)), .ref (m + 10), .int (nI (ty)), .int (nI (he)), .int er, .int ea, .int fa, .ref (m + 11), .int (nI (cn))]))) (ga : F (m + 1) = some (.inr (0, 4730, fun b9 => .int (nI (g b9))))) (hr : rRow g A) (hA : aInv A) (hb : b < A.2.2.2.1.1) (hu : u < 7) : xM P xy_MessageCoderModel_fb [.ref m, .int (nI (b)), .int (nI (u))] F (z) 0 0 (fun r9 F9 z9 => r9 = some (.int (nI (bitP (A.2.2.2.1.2.1 b) (u + 1)))) ∧ F9 = F ∧ z9 = z) := by
  refine xM_i .int rfl (Nat.le_of_ble_eq_true rfl) (L0 := [some (.ref m), some (.int (nI (b))), some (.int (nI (u)))]) rfl rfl fun Θ hC hret => ?_
  obtain ⟨⟨q0, q1, q2, q3, q4, q5, q6, q7, q9⟩, qw, qd, qm, qf, qx, qb⟩ := id hr
  obtain ⟨⟨u1, u2, u3, u4, u5⟩, uw, ud, um, uo, ut, ux, ub, un9⟩ := id hA
  refine x_aload_n hC d_MessageCoderModel_fb_0 rfl rfl ?_
  refine x_getf hC kf_MessageCoderModel_9 o0 rfl d_MessageCoderModel_fb_1 ?_
  refine x_sipush hC d_MessageCoderModel_fb_4 (v := nI 234) (by decide) ?_
  refine x_bipush hC d_MessageCoderModel_fb_7 (v := nI 7) (by decide) ?_
  refine x_iload_n hC d_MessageCoderModel_fb_9 rfl rfl ?_
  refine x_imul hC d_MessageCoderModel_fb_10 (v := (nI ((7) * (b)))) (pk_mul _ _) ?_
  refine x_iadd hC d_MessageCoderModel_fb_11 (v := (nI ((234) + ((7) * (b))))) (x_addN (by omega)) ?_
  refine x_iload_n hC d_MessageCoderModel_fb_12 rfl rfl ?_
  refine x_iadd hC d_MessageCoderModel_fb_13 (v := (nI ((234) + ((7) * (b)) + u))) (x_addN (by omega)) ?_
  refine x_iald hC ga (j := (234) + ((7) * (b)) + u) ⟨rfl, by omega, by omega⟩ (x := nI (g ((234) + ((7) * (b)) + u))) rfl d_MessageCoderModel_fb_14 ?_
  exact hret _ _ _ _ _ _ _ d_MessageCoderModel_fb_15 (by decide) (by decide) rfl (⟨congrArg (fun q => some (Value.int (nI q))) (qb b hb u hu), rfl, rfl⟩)

theorem d_MessageCoderModel_syndromeOf_0 : decode prog_14_method_22_code 0 = .ok (.aload_n 0, 1) := by decide +kernel
theorem d_MessageCoderModel_syndromeOf_1 : decode prog_14_method_22_code 1 = .ok (.iload_n 1, 1) := by decide +kernel
theorem d_MessageCoderModel_syndromeOf_2 : decode prog_14_method_22_code 2 = .ok (.iconst 0, 1) := by decide +kernel
theorem d_MessageCoderModel_syndromeOf_3 : decode prog_14_method_22_code 3 = .ok (.invokevirtual 97, 3) := by decide +kernel
theorem d_MessageCoderModel_syndromeOf_6 : decode prog_14_method_22_code 6 = .ok (.aload_n 0, 1) := by decide +kernel
theorem d_MessageCoderModel_syndromeOf_7 : decode prog_14_method_22_code 7 = .ok (.iload_n 1, 1) := by decide +kernel
theorem d_MessageCoderModel_syndromeOf_8 : decode prog_14_method_22_code 8 = .ok (.iconst 2, 1) := by decide +kernel
theorem d_MessageCoderModel_syndromeOf_9 : decode prog_14_method_22_code 9 = .ok (.invokevirtual 97, 3) := by decide +kernel
theorem d_MessageCoderModel_syndromeOf_12 : decode prog_14_method_22_code 12 = .ok (.iadd, 1) := by decide +kernel
theorem d_MessageCoderModel_syndromeOf_13 : decode prog_14_method_22_code 13 = .ok (.aload_n 0, 1) := by decide +kernel
theorem d_MessageCoderModel_syndromeOf_14 : decode prog_14_method_22_code 14 = .ok (.iload_n 1, 1) := by decide +kernel
theorem d_MessageCoderModel_syndromeOf_15 : decode prog_14_method_22_code 15 = .ok (.iconst 4, 1) := by decide +kernel
theorem d_MessageCoderModel_syndromeOf_16 : decode prog_14_method_22_code 16 = .ok (.invokevirtual 97, 3) := by decide +kernel
theorem d_MessageCoderModel_syndromeOf_19 : decode prog_14_method_22_code 19 = .ok (.iadd, 1) := by decide +kernel
theorem d_MessageCoderModel_syndromeOf_20 : decode prog_14_method_22_code 20 = .ok (.aload_n 0, 1) := by decide +kernel
theorem d_MessageCoderModel_syndromeOf_21 : decode prog_14_method_22_code 21 = .ok (.iload_n 1, 1) := by decide +kernel
theorem d_MessageCoderModel_syndromeOf_22 : decode prog_14_method_22_code 22 = .ok (.bipush 6, 2) := by decide +kernel
theorem d_MessageCoderModel_syndromeOf_24 : decode prog_14_method_22_code 24 = .ok (.invokevirtual 97, 3) := by decide +kernel
theorem d_MessageCoderModel_syndromeOf_27 : decode prog_14_method_22_code 27 = .ok (.iadd, 1) := by decide +kernel
theorem d_MessageCoderModel_syndromeOf_28 : decode prog_14_method_22_code 28 = .ok (.istore_n 2, 1) := by decide +kernel
theorem d_MessageCoderModel_syndromeOf_29 : decode prog_14_method_22_code 29 = .ok (.aload_n 0, 1) := by decide +kernel
theorem d_MessageCoderModel_syndromeOf_30 : decode prog_14_method_22_code 30 = .ok (.iload_n 1, 1) := by decide +kernel
theorem d_MessageCoderModel_syndromeOf_31 : decode prog_14_method_22_code 31 = .ok (.iconst 1, 1) := by decide +kernel
theorem d_MessageCoderModel_syndromeOf_32 : decode prog_14_method_22_code 32 = .ok (.invokevirtual 97, 3) := by decide +kernel
theorem d_MessageCoderModel_syndromeOf_35 : decode prog_14_method_22_code 35 = .ok (.aload_n 0, 1) := by decide +kernel
theorem d_MessageCoderModel_syndromeOf_36 : decode prog_14_method_22_code 36 = .ok (.iload_n 1, 1) := by decide +kernel
theorem d_MessageCoderModel_syndromeOf_37 : decode prog_14_method_22_code 37 = .ok (.iconst 2, 1) := by decide +kernel
theorem d_MessageCoderModel_syndromeOf_38 : decode prog_14_method_22_code 38 = .ok (.invokevirtual 97, 3) := by decide +kernel
theorem d_MessageCoderModel_syndromeOf_41 : decode prog_14_method_22_code 41 = .ok (.iadd, 1) := by decide +kernel
theorem d_MessageCoderModel_syndromeOf_42 : decode prog_14_method_22_code 42 = .ok (.aload_n 0, 1) := by decide +kernel
theorem d_MessageCoderModel_syndromeOf_43 : decode prog_14_method_22_code 43 = .ok (.iload_n 1, 1) := by decide +kernel
theorem d_MessageCoderModel_syndromeOf_44 : decode prog_14_method_22_code 44 = .ok (.iconst 5, 1) := by decide +kernel
theorem d_MessageCoderModel_syndromeOf_45 : decode prog_14_method_22_code 45 = .ok (.invokevirtual 97, 3) := by decide +kernel
theorem d_MessageCoderModel_syndromeOf_48 : decode prog_14_method_22_code 48 = .ok (.iadd, 1) := by decide +kernel
theorem d_MessageCoderModel_syndromeOf_49 : decode prog_14_method_22_code 49 = .ok (.aload_n 0, 1) := by decide +kernel
theorem d_MessageCoderModel_syndromeOf_50 : decode prog_14_method_22_code 50 = .ok (.iload_n 1, 1) := by decide +kernel
theorem d_MessageCoderModel_syndromeOf_51 : decode prog_14_method_22_code 51 = .ok (.bipush 6, 2) := by decide +kernel
theorem d_MessageCoderModel_syndromeOf_53 : decode prog_14_method_22_code 53 = .ok (.invokevirtual 97, 3) := by decide +kernel
theorem d_MessageCoderModel_syndromeOf_56 : decode prog_14_method_22_code 56 = .ok (.iadd, 1) := by decide +kernel
theorem d_MessageCoderModel_syndromeOf_57 : decode prog_14_method_22_code 57 = .ok (.istore_n 3, 1) := by decide +kernel
theorem d_MessageCoderModel_syndromeOf_58 : decode prog_14_method_22_code 58 = .ok (.aload_n 0, 1) := by decide +kernel
theorem d_MessageCoderModel_syndromeOf_59 : decode prog_14_method_22_code 59 = .ok (.iload_n 1, 1) := by decide +kernel
theorem d_MessageCoderModel_syndromeOf_60 : decode prog_14_method_22_code 60 = .ok (.iconst 3, 1) := by decide +kernel
theorem d_MessageCoderModel_syndromeOf_61 : decode prog_14_method_22_code 61 = .ok (.invokevirtual 97, 3) := by decide +kernel
theorem d_MessageCoderModel_syndromeOf_64 : decode prog_14_method_22_code 64 = .ok (.aload_n 0, 1) := by decide +kernel
theorem d_MessageCoderModel_syndromeOf_65 : decode prog_14_method_22_code 65 = .ok (.iload_n 1, 1) := by decide +kernel
theorem d_MessageCoderModel_syndromeOf_66 : decode prog_14_method_22_code 66 = .ok (.iconst 4, 1) := by decide +kernel
theorem d_MessageCoderModel_syndromeOf_67 : decode prog_14_method_22_code 67 = .ok (.invokevirtual 97, 3) := by decide +kernel
theorem d_MessageCoderModel_syndromeOf_70 : decode prog_14_method_22_code 70 = .ok (.iadd, 1) := by decide +kernel
theorem d_MessageCoderModel_syndromeOf_71 : decode prog_14_method_22_code 71 = .ok (.aload_n 0, 1) := by decide +kernel
theorem d_MessageCoderModel_syndromeOf_72 : decode prog_14_method_22_code 72 = .ok (.iload_n 1, 1) := by decide +kernel
theorem d_MessageCoderModel_syndromeOf_73 : decode prog_14_method_22_code 73 = .ok (.iconst 5, 1) := by decide +kernel
theorem d_MessageCoderModel_syndromeOf_74 : decode prog_14_method_22_code 74 = .ok (.invokevirtual 97, 3) := by decide +kernel
theorem d_MessageCoderModel_syndromeOf_77 : decode prog_14_method_22_code 77 = .ok (.iadd, 1) := by decide +kernel
theorem d_MessageCoderModel_syndromeOf_78 : decode prog_14_method_22_code 78 = .ok (.aload_n 0, 1) := by decide +kernel
theorem d_MessageCoderModel_syndromeOf_79 : decode prog_14_method_22_code 79 = .ok (.iload_n 1, 1) := by decide +kernel
theorem d_MessageCoderModel_syndromeOf_80 : decode prog_14_method_22_code 80 = .ok (.bipush 6, 2) := by decide +kernel
theorem d_MessageCoderModel_syndromeOf_82 : decode prog_14_method_22_code 82 = .ok (.invokevirtual 97, 3) := by decide +kernel
theorem d_MessageCoderModel_syndromeOf_85 : decode prog_14_method_22_code 85 = .ok (.iadd, 1) := by decide +kernel
theorem d_MessageCoderModel_syndromeOf_86 : decode prog_14_method_22_code 86 = .ok (.istore 4, 2) := by decide +kernel
theorem d_MessageCoderModel_syndromeOf_88 : decode prog_14_method_22_code 88 = .ok (.iload_n 2, 1) := by decide +kernel
theorem d_MessageCoderModel_syndromeOf_89 : decode prog_14_method_22_code 89 = .ok (.iconst 2, 1) := by decide +kernel
theorem d_MessageCoderModel_syndromeOf_90 : decode prog_14_method_22_code 90 = .ok (.irem, 1) := by decide +kernel
theorem d_MessageCoderModel_syndromeOf_91 : decode prog_14_method_22_code 91 = .ok (.iconst 2, 1) := by decide +kernel
theorem d_MessageCoderModel_syndromeOf_92 : decode prog_14_method_22_code 92 = .ok (.iload_n 3, 1) := by decide +kernel
theorem d_MessageCoderModel_syndromeOf_93 : decode prog_14_method_22_code 93 = .ok (.iconst 2, 1) := by decide +kernel
theorem d_MessageCoderModel_syndromeOf_94 : decode prog_14_method_22_code 94 = .ok (.irem, 1) := by decide +kernel
theorem d_MessageCoderModel_syndromeOf_95 : decode prog_14_method_22_code 95 = .ok (.imul, 1) := by decide +kernel
theorem d_MessageCoderModel_syndromeOf_96 : decode prog_14_method_22_code 96 = .ok (.iadd, 1) := by decide +kernel
theorem d_MessageCoderModel_syndromeOf_97 : decode prog_14_method_22_code 97 = .ok (.iconst 4, 1) := by decide +kernel
theorem d_MessageCoderModel_syndromeOf_98 : decode prog_14_method_22_code 98 = .ok (.iload 4, 2) := by decide +kernel
theorem d_MessageCoderModel_syndromeOf_100 : decode prog_14_method_22_code 100 = .ok (.iconst 2, 1) := by decide +kernel
theorem d_MessageCoderModel_syndromeOf_101 : decode prog_14_method_22_code 101 = .ok (.irem, 1) := by decide +kernel
theorem d_MessageCoderModel_syndromeOf_102 : decode prog_14_method_22_code 102 = .ok (.imul, 1) := by decide +kernel
theorem d_MessageCoderModel_syndromeOf_103 : decode prog_14_method_22_code 103 = .ok (.iadd, 1) := by decide +kernel
theorem d_MessageCoderModel_syndromeOf_104 : decode prog_14_method_22_code 104 = .ok (.ireturn, 1) := by decide +kernel
set_option maxHeartbeats 4000000 in
set_option maxRecDepth 20000 in
theorem c_MessageCoderModel_syndromeOf {P : xP} {F : xF} {z : Nat} {m : Nat} {th : Nat} {ch : Nat} {sv : Nat} {rs : Int32} {bm : Nat} {dm : Nat} {lz : Nat} {ty : Nat} {he : Nat} {er : Int32} {ea : Int32} {fa : Int32} {cn : Nat} {g : Nat → Nat} {A : aS} {b : Nat} (o0 : F (m) = some (.inl (10, [.int (nI (th)), .ref (m + 1), .int (nI (ch)), .int (nI (sv)), .int rs, .ref (m + 2), .ref (m + 3), .ref (m + 4), .ref (m + 5), .ref (m + 6), .int (nI (bm)), .ref (m + 7), .int (nI (dm)), .ref (m + 8), .ref (m + 9), .int (nI (lz)), .ref (m + 10), .int (nI (ty)), .int (nI (he)), .int er, .int ea, .int fa, .ref (m + 11), .int (nI (cn))]))) (ga : F (m + 1) = some (.inr (0, 4730, fun b9 => .int (nI (g b9))))) (hr : rRow g A) (hA : aInv A) (hb : b < A.2.2.2.1.1) : xM P xy_MessageCoderModel_syndromeOf [.ref m, .int (nI (b))] F (z) 0 0 (fun r9 F9 z9 => r9 = some (.int (nI (syn (A.2.2.2.1.2.1 b)))) ∧ F9 = F ∧ z9 = z) := by
  refine xM_i .int rfl (Nat.le_of_ble_eq_true rfl) (L0 := [some (.ref m), some (.int (nI (b))), none, none, none]) rfl rfl fun Θ hC hret => ?_
  have hx8 := hA.2.2.2.2.2.2.2.1 b hb
  have z1 := bitP_2 (A.2.2.2.1.2.1 b) (0 + 1)
  have z2 := bitP_2 (A.2.2.2.1.2.1 b) (1 + 1)
  have z3 := bitP_2 (A.2.2.2.1.2.1 b) (2 + 1)
  have z4 := bitP_2 (A.2.2.2.1.2.1 b) (3 + 1)
  have z5 := bitP_2 (A.2.2.2.1.2.1 b) (4 + 1)
  have z6 := bitP_2 (A.2.2.2.1.2.1 b) (5 + 1)
  have z7 := bitP_2 (A.2.2.2.1.2.1 b) (6 + 1)
  refine x_aload_n hC d_MessageCoderModel_syndromeOf_0 rfl rfl ?_
  refine x_iload_n hC d_MessageCoderModel_syndromeOf_1 rfl rfl ?_
  refine x_iconst hC d_MessageCoderModel_syndromeOf_2 (v := nI 0) (by decide) ?_
  refine x_callV hC kv_MessageCoderModel_97 (c_MessageCoderModel_fb (o0 := o0) (ga := ga) (hr := hr) (hA := hA) (hb := hb) (hu := by omega)) o0 rfl rfl (by decide) rfl rfl rfl (Nat.le_of_ble_eq_true rfl) (by decide) d_MessageCoderModel_syndromeOf_3 (fun r9 F9 z9 hp9 => ?_)
  obtain ⟨rfl, h9b, h9c⟩ := hp9
  rw [h9b, h9c]
  clear h9b h9c F9 z9
  refine x_aload_n hC d_MessageCoderModel_syndromeOf_6 rfl rfl ?_
  refine x_iload_n hC d_MessageCoderModel_syndromeOf_7 rfl rfl ?_
  refine x_iconst hC d_MessageCoderModel_syndromeOf_8 (v := nI 2) (by decide) ?_
  refine x_callV hC kv_MessageCoderModel_97 (c_MessageCoderModel_fb (o0 := o0) (ga := ga) (hr := hr) (hA := hA) (hb := hb) (hu := by omega)) o0 rfl rfl (by decide) rfl rfl rfl (Nat.le_of_ble_eq_true rfl) (by decide) d_MessageCoderModel_syndromeOf_9 (fun r9 F9 z9 hp9 => ?_)
  obtain ⟨rfl, h9b, h9c⟩ := hp9
  rw [h9b, h9c]
  clear h9b h9c F9 z9
  refine x_iadd hC d_MessageCoderModel_syndromeOf_12 (v := (nI ((bitP (A.2.2.2.1.2.1 b) (0 + 1)) + (bitP (A.2.2.2.1.2.1 b) (2 + 1))))) (x_addN (by omega)) ?_
  refine x_aload_n hC d_MessageCoderModel_syndromeOf_13 rfl rfl ?_
  refine x_iload_n hC d_MessageCoderModel_syndromeOf_14 rfl rfl ?_
  refine x_iconst hC d_MessageCoderModel_syndromeOf_15 (v := nI 4) (by decide) ?_
  refine x_callV hC kv_MessageCoderModel_97 (c_MessageCoderModel_fb (o0 := o0) (ga := ga) (hr := hr) (hA := hA) (hb := hb) (hu := by omega)) o0 rfl rfl (by decide) rfl rfl rfl (Nat.le_of_ble_eq_true rfl) (by decide) d_MessageCoderModel_syndromeOf_16 (fun r9 F9 z9 hp9 => ?_)
  obtain ⟨rfl, h9b, h9c⟩ := hp9
  rw [h9b, h9c]
  clear h9b h9c F9 z9
  refine x_iadd hC d_MessageCoderModel_syndromeOf_19 (v := (nI (((bitP (A.2.2.2.1.2.1 b) (0 + 1)) + (bitP (A.2.2.2.1.2.1 b) (2 + 1))) + (bitP (A.2.2.2.1.2.1 b) (4 + 1))))) (x_addN (by omega)) ?_
  refine x_aload_n hC d_MessageCoderModel_syndromeOf_20 rfl rfl ?_
  refine x_iload_n hC d_MessageCoderModel_syndromeOf_21 rfl rfl ?_
  refine x_bipush hC d_MessageCoderModel_syndromeOf_22 (v := nI 6) (by decide) ?_
  refine x_callV hC kv_MessageCoderModel_97 (c_MessageCoderModel_fb (o0 := o0) (ga := ga) (hr := hr) (hA := hA) (hb := hb) (hu := by omega)) o0 rfl rfl (by decide) rfl rfl rfl (Nat.le_of_ble_eq_true rfl) (by decide) d_MessageCoderModel_syndromeOf_24 (fun r9 F9 z9 hp9 => ?_)
  obtain ⟨rfl, h9b, h9c⟩ := hp9
  rw [h9b, h9c]
  clear h9b h9c F9 z9
  refine x_iadd hC d_MessageCoderModel_syndromeOf_27 (v := (nI ((((bitP (A.2.2.2.1.2.1 b) (0 + 1)) + (bitP (A.2.2.2.1.2.1 b) (2 + 1))) + (bitP (A.2.2.2.1.2.1 b) (4 + 1))) + (bitP (A.2.2.2.1.2.1 b) (6 + 1))))) (x_addN (by omega)) ?_
  refine x_istore_n hC d_MessageCoderModel_syndromeOf_28 rfl (Nat.le_of_ble_eq_true rfl) (L1 := [some (.ref m), some (.int (nI (b))), some (.int (nI ((((bitP (A.2.2.2.1.2.1 b) (0 + 1)) + (bitP (A.2.2.2.1.2.1 b) (2 + 1))) + (bitP (A.2.2.2.1.2.1 b) (4 + 1))) + (bitP (A.2.2.2.1.2.1 b) (6 + 1))))), none, none]) rfl ?_
  refine x_aload_n hC d_MessageCoderModel_syndromeOf_29 rfl rfl ?_
  refine x_iload_n hC d_MessageCoderModel_syndromeOf_30 rfl rfl ?_
  refine x_iconst hC d_MessageCoderModel_syndromeOf_31 (v := nI 1) (by decide) ?_
  refine x_callV hC kv_MessageCoderModel_97 (c_MessageCoderModel_fb (o0 := o0) (ga := ga) (hr := hr) (hA := hA) (hb := hb) (hu := by omega)) o0 rfl rfl (by decide) rfl rfl rfl (Nat.le_of_ble_eq_true rfl) (by decide) d_MessageCoderModel_syndromeOf_32 (fun r9 F9 z9 hp9 => ?_)
  obtain ⟨rfl, h9b, h9c⟩ := hp9
  rw [h9b, h9c]
  clear h9b h9c F9 z9
  refine x_aload_n hC d_MessageCoderModel_syndromeOf_35 rfl rfl ?_
  refine x_iload_n hC d_MessageCoderModel_syndromeOf_36 rfl rfl ?_
  refine x_iconst hC d_MessageCoderModel_syndromeOf_37 (v := nI 2) (by decide) ?_
  refine x_callV hC kv_MessageCoderModel_97 (c_MessageCoderModel_fb (o0 := o0) (ga := ga) (hr := hr) (hA := hA) (hb := hb) (hu := by omega)) o0 rfl rfl (by decide) rfl rfl rfl (Nat.le_of_ble_eq_true rfl) (by decide) d_MessageCoderModel_syndromeOf_38 (fun r9 F9 z9 hp9 => ?_)
  obtain ⟨rfl, h9b, h9c⟩ := hp9
  rw [h9b, h9c]
  clear h9b h9c F9 z9
  refine x_iadd hC d_MessageCoderModel_syndromeOf_41 (v := (nI ((bitP (A.2.2.2.1.2.1 b) (1 + 1)) + (bitP (A.2.2.2.1.2.1 b) (2 + 1))))) (x_addN (by omega)) ?_
  refine x_aload_n hC d_MessageCoderModel_syndromeOf_42 rfl rfl ?_
  refine x_iload_n hC d_MessageCoderModel_syndromeOf_43 rfl rfl ?_
  refine x_iconst hC d_MessageCoderModel_syndromeOf_44 (v := nI 5) (by decide) ?_
  refine x_callV hC kv_MessageCoderModel_97 (c_MessageCoderModel_fb (o0 := o0) (ga := ga) (hr := hr) (hA := hA) (hb := hb) (hu := by omega)) o0 rfl rfl (by decide) rfl rfl rfl (Nat.le_of_ble_eq_true rfl) (by decide) d_MessageCoderModel_syndromeOf_45 (fun r9 F9 z9 hp9 => ?_)
  obtain ⟨rfl, h9b, h9c⟩ := hp9
  rw [h9b, h9c]
  clear h9b h9c F9 z9
  refine x_iadd hC d_MessageCoderModel_syndromeOf_48 (v := (nI (((bitP (A.2.2.2.1.2.1 b) (1 + 1)) + (bitP (A.2.2.2.1.2.1 b) (2 + 1))) + (bitP (A.2.2.2.1.2.1 b) (5 + 1))))) (x_addN (by omega)) ?_
  refine x_aload_n hC d_MessageCoderModel_syndromeOf_49 rfl rfl ?_
  refine x_iload_n hC d_MessageCoderModel_syndromeOf_50 rfl rfl ?_
  refine x_bipush hC d_MessageCoderModel_syndromeOf_51 (v := nI 6) (by decide) ?_
  refine x_callV hC kv_MessageCoderModel_97 (c_MessageCoderModel_fb (o0 := o0) (ga := ga) (hr := hr) (hA := hA) (hb := hb) (hu := by omega)) o0 rfl rfl (by decide) rfl rfl rfl (Nat.le_of_ble_eq_true rfl) (by decide) d_MessageCoderModel_syndromeOf_53 (fun r9 F9 z9 hp9 => ?_)
  obtain ⟨rfl, h9b, h9c⟩ := hp9
  rw [h9b, h9c]
  clear h9b h9c F9 z9
  refine x_iadd hC d_MessageCoderModel_syndromeOf_56 (v := (nI ((((bitP (A.2.2.2.1.2.1 b) (1 + 1)) + (bitP (A.2.2.2.1.2.1 b) (2 + 1))) + (bitP (A.2.2.2.1.2.1 b) (5 + 1))) + (bitP (A.2.2.2.1.2.1 b) (6 + 1))))) (x_addN (by omega)) ?_
  refine x_istore_n hC d_MessageCoderModel_syndromeOf_57 rfl (Nat.le_of_ble_eq_true rfl) (L1 := [some (.ref m), some (.int (nI (b))), some (.int (nI ((((bitP (A.2.2.2.1.2.1 b) (0 + 1)) + (bitP (A.2.2.2.1.2.1 b) (2 + 1))) + (bitP (A.2.2.2.1.2.1 b) (4 + 1))) + (bitP (A.2.2.2.1.2.1 b) (6 + 1))))), some (.int (nI ((((bitP (A.2.2.2.1.2.1 b) (1 + 1)) + (bitP (A.2.2.2.1.2.1 b) (2 + 1))) + (bitP (A.2.2.2.1.2.1 b) (5 + 1))) + (bitP (A.2.2.2.1.2.1 b) (6 + 1))))), none]) rfl ?_
  refine x_aload_n hC d_MessageCoderModel_syndromeOf_58 rfl rfl ?_
  refine x_iload_n hC d_MessageCoderModel_syndromeOf_59 rfl rfl ?_
  refine x_iconst hC d_MessageCoderModel_syndromeOf_60 (v := nI 3) (by decide) ?_
  refine x_callV hC kv_MessageCoderModel_97 (c_MessageCoderModel_fb (o0 := o0) (ga := ga) (hr := hr) (hA := hA) (hb := hb) (hu := by omega)) o0 rfl rfl (by decide) rfl rfl rfl (Nat.le_of_ble_eq_true rfl) (by decide) d_MessageCoderModel_syndromeOf_61 (fun r9 F9 z9 hp9 => ?_)
  obtain ⟨rfl, h9b, h9c⟩ := hp9
  rw [h9b, h9c]
  clear h9b h9c F9 z9
  refine x_aload_n hC d_MessageCoderModel_syndromeOf_64 rfl rfl ?_
  refine x_iload_n hC d_MessageCoderModel_syndromeOf_65 rfl rfl ?_
  refine x_iconst hC d_MessageCoderModel_syndromeOf_66 (v := nI 4) (by decide) ?_
  refine x_callV hC kv_MessageCoderModel_97 (c_MessageCoderModel_fb (o0 := o0) (ga := ga) (hr := hr) (hA := hA) (hb := hb) (hu := by omega)) o0 rfl rfl (by decide) rfl rfl rfl (Nat.le_of_ble_eq_true rfl) (by decide) d_MessageCoderModel_syndromeOf_67 (fun r9 F9 z9 hp9 => ?_)
  obtain ⟨rfl, h9b, h9c⟩ := hp9
  rw [h9b, h9c]
  clear h9b h9c F9 z9
  refine x_iadd hC d_MessageCoderModel_syndromeOf_70 (v := (nI ((bitP (A.2.2.2.1.2.1 b) (3 + 1)) + (bitP (A.2.2.2.1.2.1 b) (4 + 1))))) (x_addN (by omega)) ?_
  refine x_aload_n hC d_MessageCoderModel_syndromeOf_71 rfl rfl ?_
  refine x_iload_n hC d_MessageCoderModel_syndromeOf_72 rfl rfl ?_
  refine x_iconst hC d_MessageCoderModel_syndromeOf_73 (v := nI 5) (by decide) ?_
  refine x_callV hC kv_MessageCoderModel_97 (c_MessageCoderModel_fb (o0 := o0) (ga := ga) (hr := hr) (hA := hA) (hb := hb) (hu := by omega)) o0 rfl rfl (by decide) rfl rfl rfl (Nat.le_of_ble_eq_true rfl) (by decide) d_MessageCoderModel_syndromeOf_74 (fun r9 F9 z9 hp9 => ?_)
  obtain ⟨rfl, h9b, h9c⟩ := hp9
  rw [h9b, h9c]
  clear h9b h9c F9 z9
  refine x_iadd hC d_MessageCoderModel_syndromeOf_77 (v := (nI (((bitP (A.2.2.2.1.2.1 b) (3 + 1)) + (bitP (A.2.2.2.1.2.1 b) (4 + 1))) + (bitP (A.2.2.2.1.2.1 b) (5 + 1))))) (x_addN (by omega)) ?_
  refine x_aload_n hC d_MessageCoderModel_syndromeOf_78 rfl rfl ?_
  refine x_iload_n hC d_MessageCoderModel_syndromeOf_79 rfl rfl ?_
  refine x_bipush hC d_MessageCoderModel_syndromeOf_80 (v := nI 6) (by decide) ?_
  refine x_callV hC kv_MessageCoderModel_97 (c_MessageCoderModel_fb (o0 := o0) (ga := ga) (hr := hr) (hA := hA) (hb := hb) (hu := by omega)) o0 rfl rfl (by decide) rfl rfl rfl (Nat.le_of_ble_eq_true rfl) (by decide) d_MessageCoderModel_syndromeOf_82 (fun r9 F9 z9 hp9 => ?_)
  obtain ⟨rfl, h9b, h9c⟩ := hp9
  rw [h9b, h9c]
  clear h9b h9c F9 z9
  refine x_iadd hC d_MessageCoderModel_syndromeOf_85 (v := (nI ((((bitP (A.2.2.2.1.2.1 b) (3 + 1)) + (bitP (A.2.2.2.1.2.1 b) (4 + 1))) + (bitP (A.2.2.2.1.2.1 b) (5 + 1))) + (bitP (A.2.2.2.1.2.1 b) (6 + 1))))) (x_addN (by omega)) ?_
  refine x_istore hC d_MessageCoderModel_syndromeOf_86 (Nat.le_of_ble_eq_true rfl) (L1 := [some (.ref m), some (.int (nI (b))), some (.int (nI ((((bitP (A.2.2.2.1.2.1 b) (0 + 1)) + (bitP (A.2.2.2.1.2.1 b) (2 + 1))) + (bitP (A.2.2.2.1.2.1 b) (4 + 1))) + (bitP (A.2.2.2.1.2.1 b) (6 + 1))))), some (.int (nI ((((bitP (A.2.2.2.1.2.1 b) (1 + 1)) + (bitP (A.2.2.2.1.2.1 b) (2 + 1))) + (bitP (A.2.2.2.1.2.1 b) (5 + 1))) + (bitP (A.2.2.2.1.2.1 b) (6 + 1))))), some (.int (nI ((((bitP (A.2.2.2.1.2.1 b) (3 + 1)) + (bitP (A.2.2.2.1.2.1 b) (4 + 1))) + (bitP (A.2.2.2.1.2.1 b) (5 + 1))) + (bitP (A.2.2.2.1.2.1 b) (6 + 1)))))]) rfl ?_
  refine x_iload_n hC d_MessageCoderModel_syndromeOf_88 rfl rfl ?_
  refine x_iconst hC d_MessageCoderModel_syndromeOf_89 (v := nI 2) (by decide) ?_
  refine x_irem hC d_MessageCoderModel_syndromeOf_90 (x_ne0 (by omega) (by omega)) (v := (nI (((((bitP (A.2.2.2.1.2.1 b) (0 + 1)) + (bitP (A.2.2.2.1.2.1 b) (2 + 1))) + (bitP (A.2.2.2.1.2.1 b) (4 + 1))) + (bitP (A.2.2.2.1.2.1 b) (6 + 1))) % (2)))) (pk_rem (by omega) (by omega) (by omega)) ?_
  refine x_iconst hC d_MessageCoderModel_syndromeOf_91 (v := nI 2) (by decide) ?_
  refine x_iload_n hC d_MessageCoderModel_syndromeOf_92 rfl rfl ?_
  refine x_iconst hC d_MessageCoderModel_syndromeOf_93 (v := nI 2) (by decide) ?_
  refine x_irem hC d_MessageCoderModel_syndromeOf_94 (x_ne0 (by omega) (by omega)) (v := (nI (((((bitP (A.2.2.2.1.2.1 b) (1 + 1)) + (bitP (A.2.2.2.1.2.1 b) (2 + 1))) + (bitP (A.2.2.2.1.2.1 b) (5 + 1))) + (bitP (A.2.2.2.1.2.1 b) (6 + 1))) % (2)))) (pk_rem (by omega) (by omega) (by omega)) ?_
  refine x_imul hC d_MessageCoderModel_syndromeOf_95 (v := (nI ((2) * (((((bitP (A.2.2.2.1.2.1 b) (1 + 1)) + (bitP (A.2.2.2.1.2.1 b) (2 + 1))) + (bitP (A.2.2.2.1.2.1 b) (5 + 1))) + (bitP (A.2.2.2.1.2.1 b) (6 + 1))) % (2))))) (pk_mul _ _) ?_
  refine x_iadd hC d_MessageCoderModel_syndromeOf_96 (v := (nI ((((((bitP (A.2.2.2.1.2.1 b) (0 + 1)) + (bitP (A.2.2.2.1.2.1 b) (2 + 1))) + (bitP (A.2.2.2.1.2.1 b) (4 + 1))) + (bitP (A.2.2.2.1.2.1 b) (6 + 1))) % (2)) + ((2) * (((((bitP (A.2.2.2.1.2.1 b) (1 + 1)) + (bitP (A.2.2.2.1.2.1 b) (2 + 1))) + (bitP (A.2.2.2.1.2.1 b) (5 + 1))) + (bitP (A.2.2.2.1.2.1 b) (6 + 1))) % (2)))))) (x_addN (by omega)) ?_
  refine x_iconst hC d_MessageCoderModel_syndromeOf_97 (v := nI 4) (by decide) ?_
  refine x_iload hC d_MessageCoderModel_syndromeOf_98 rfl ?_
  refine x_iconst hC d_MessageCoderModel_syndromeOf_100 (v := nI 2) (by decide) ?_
  refine x_irem hC d_MessageCoderModel_syndromeOf_101 (x_ne0 (by omega) (by omega)) (v := (nI (((((bitP (A.2.2.2.1.2.1 b) (3 + 1)) + (bitP (A.2.2.2.1.2.1 b) (4 + 1))) + (bitP (A.2.2.2.1.2.1 b) (5 + 1))) + (bitP (A.2.2.2.1.2.1 b) (6 + 1))) % (2)))) (pk_rem (by omega) (by omega) (by omega)) ?_
  refine x_imul hC d_MessageCoderModel_syndromeOf_102 (v := (nI ((4) * (((((bitP (A.2.2.2.1.2.1 b) (3 + 1)) + (bitP (A.2.2.2.1.2.1 b) (4 + 1))) + (bitP (A.2.2.2.1.2.1 b) (5 + 1))) + (bitP (A.2.2.2.1.2.1 b) (6 + 1))) % (2))))) (pk_mul _ _) ?_
  refine x_iadd hC d_MessageCoderModel_syndromeOf_103 (v := (nI (((((((bitP (A.2.2.2.1.2.1 b) (0 + 1)) + (bitP (A.2.2.2.1.2.1 b) (2 + 1))) + (bitP (A.2.2.2.1.2.1 b) (4 + 1))) + (bitP (A.2.2.2.1.2.1 b) (6 + 1))) % (2)) + ((2) * (((((bitP (A.2.2.2.1.2.1 b) (1 + 1)) + (bitP (A.2.2.2.1.2.1 b) (2 + 1))) + (bitP (A.2.2.2.1.2.1 b) (5 + 1))) + (bitP (A.2.2.2.1.2.1 b) (6 + 1))) % (2)))) + ((4) * (((((bitP (A.2.2.2.1.2.1 b) (3 + 1)) + (bitP (A.2.2.2.1.2.1 b) (4 + 1))) + (bitP (A.2.2.2.1.2.1 b) (5 + 1))) + (bitP (A.2.2.2.1.2.1 b) (6 + 1))) % (2)))))) (x_addN (by omega)) ?_
  exact hret _ _ _ _ _ _ _ d_MessageCoderModel_syndromeOf_104 (by decide) (by decide) rfl (⟨congrArg (fun q => some (Value.int (nI q))) (syn_sum _ hx8), rfl, rfl⟩)

theorem d_MessageCoderModel_damaged_0 : decode prog_14_method_23_code 0 = .ok (.iconst 0, 1) := by decide +kernel
theorem d_MessageCoderModel_damaged_1 : decode prog_14_method_23_code 1 = .ok (.istore_n 1, 1) := by decide +kernel
theorem d_MessageCoderModel_damaged_2 : decode prog_14_method_23_code 2 = .ok (.iconst 0, 1) := by decide +kernel
theorem d_MessageCoderModel_damaged_3 : decode prog_14_method_23_code 3 = .ok (.istore_n 2, 1) := by decide +kernel
theorem d_MessageCoderModel_damaged_4 : decode prog_14_method_23_code 4 = .ok (.iload_n 2, 1) := by decide +kernel
theorem d_MessageCoderModel_damaged_5 : decode prog_14_method_23_code 5 = .ok (.aload_n 0, 1) := by decide +kernel
theorem d_MessageCoderModel_damaged_6 : decode prog_14_method_23_code 6 = .ok (.getfield 9, 3) := by decide +kernel
theorem d_MessageCoderModel_damaged_9 : decode prog_14_method_23_code 9 = .ok (.bipush 7, 2) := by decide +kernel
theorem d_MessageCoderModel_damaged_11 : decode prog_14_method_23_code 11 = .ok (.iaload, 1) := by decide +kernel
theorem d_MessageCoderModel_damaged_12 : decode prog_14_method_23_code 12 = .ok (.bipush 7, 2) := by decide +kernel
theorem d_MessageCoderModel_damaged_14 : decode prog_14_method_23_code 14 = .ok (.idiv, 1) := by decide +kernel
theorem d_MessageCoderModel_damaged_15 : decode prog_14_method_23_code 15 = .ok (.if_icmp .ge 25, 3) := by decide +kernel
theorem d_MessageCoderModel_damaged_18 : decode prog_14_method_23_code 18 = .ok (.iload_n 1, 1) := by decide +kernel
theorem d_MessageCoderModel_damaged_19 : decode prog_14_method_23_code 19 = .ok (.aload_n 0, 1) := by decide +kernel
theorem d_MessageCoderModel_damaged_20 : decode prog_14_method_23_code 20 = .ok (.iload_n 2, 1) := by decide +kernel
theorem d_MessageCoderModel_damaged_21 : decode prog_14_method_23_code 21 = .ok (.invokevirtual 100, 3) := by decide +kernel
theorem d_MessageCoderModel_damaged_24 : decode prog_14_method_23_code 24 = .ok (.ifCond .eq 7, 3) := by decide +kernel
theorem d_MessageCoderModel_damaged_27 : decode prog_14_method_23_code 27 = .ok (.iconst 1, 1) := by decide +kernel
theorem d_MessageCoderModel_damaged_28 : decode prog_14_method_23_code 28 = .ok (.goto 4, 3) := by decide +kernel
theorem d_MessageCoderModel_damaged_31 : decode prog_14_method_23_code 31 = .ok (.iconst 0, 1) := by decide +kernel
theorem d_MessageCoderModel_damaged_32 : decode prog_14_method_23_code 32 = .ok (.iadd, 1) := by decide +kernel
theorem d_MessageCoderModel_damaged_33 : decode prog_14_method_23_code 33 = .ok (.istore_n 1, 1) := by decide +kernel
theorem d_MessageCoderModel_damaged_34 : decode prog_14_method_23_code 34 = .ok (.iinc 2 1, 3) := by decide +kernel
theorem d_MessageCoderModel_damaged_37 : decode prog_14_method_23_code 37 = .ok (.goto (-33), 3) := by decide +kernel
theorem d_MessageCoderModel_damaged_40 : decode prog_14_method_23_code 40 = .ok (.iload_n 1, 1) := by decide +kernel
theorem d_MessageCoderModel_damaged_41 : decode prog_14_method_23_code 41 = .ok (.ireturn, 1) := by decide +kernel
set_option maxHeartbeats 4000000 in
set_option maxRecDepth 20000 in
theorem c_MessageCoderModel_damaged {P : xP} {F : xF} {z : Nat} {m : Nat} {th : Nat} {ch : Nat} {sv : Nat} {rs : Int32} {bm : Nat} {dm : Nat} {lz : Nat} {ty : Nat} {he : Nat} {er : Int32} {ea : Int32} {fa : Int32} {cn : Nat} {g : Nat → Nat} {A : aS} (o0 : F (m) = some (.inl (10, [.int (nI (th)), .ref (m + 1), .int (nI (ch)), .int (nI (sv)), .int rs, .ref (m + 2), .ref (m + 3), .ref (m + 4), .ref (m + 5), .ref (m + 6), .int (nI (bm)), .ref (m + 7), .int (nI (dm)), .ref (m + 8), .ref (m + 9), .int (nI (lz)), .ref (m + 10), .int (nI (ty)), .int (nI (he)), .int er, .int ea, .int fa, .ref (m + 11), .int (nI (cn))]))) (ga : F (m + 1) = some (.inr (0, 4730, fun b9 => .int (nI (g b9))))) (hr : rRow g A) (hA : aInv A) : xM P xy_MessageCoderModel_damaged [.ref m] F (z) 0 0 (fun r9 F9 z9 => r9 = some (.int (nI (dmgN A.2.2.2.1.2.1 A.2.2.2.1.1))) ∧ F9 = F ∧ z9 = z) := by
  refine xM_i .int rfl (Nat.le_of_ble_eq_true rfl) (L0 := [some (.ref m), none, none]) rfl rfl fun Θ hC hret => ?_
  obtain ⟨⟨q0, q1, q2, q3, q4, q5, q6, q7, q9⟩, qw, qd, qm, qf, qx, qb⟩ := id hr
  obtain ⟨⟨u1, u2, u3, u4, u5⟩, uw, ud, um, uo, ut, ux, ub, un9⟩ := id hA
  refine x_iconst hC d_MessageCoderModel_damaged_0 (v := nI 0) (by decide) ?_
  refine x_istore_n hC d_MessageCoderModel_damaged_1 rfl (Nat.le_of_ble_eq_true rfl) (L1 := [some (.ref m), some (.int (nI 0)), none]) rfl ?_
  refine x_iconst hC d_MessageCoderModel_damaged_2 (v := nI 0) (by decide) ?_
  refine x_istore_n hC d_MessageCoderModel_damaged_3 rfl (Nat.le_of_ble_eq_true rfl) (L1 := [some (.ref m), some (.int (nI 0)), some (.int (nI 0))]) rfl ?_
  have loop_4 : ∀ (m9 : Nat) (i : Nat) (n1 : Nat), (F (m) = some (.inl (10, [.int (nI (th)), .ref (m + 1), .int (nI (ch)), .int (nI (sv)), .int rs, .ref (m + 2), .ref (m + 3), .ref (m + 4), .ref (m + 5), .ref (m + 6), .int (nI (bm)), .ref (m + 7), .int (nI (dm)), .ref (m + 8), .ref (m + 9), .int (nI (lz)), .ref (m + 10), .int (nI (ty)), .int (nI (he)), .int er, .int ea, .int fa, .ref (m + 11), .int (nI (cn))]))) → (F (m + 1) = some (.inr (0, 4730, fun b9 => .int (nI (g b9))))) → (i ≤ A.2.2.2.1.1) → (n1 = dmgN A.2.2.2.1.2.1 i) → (A.2.2.2.1.1 - i < m9) → xX P Θ 4 [some (.ref m), some (.int (nI (n1))), some (.int (nI (i)))] [] F (z) 0 0 := by
    intro m9
    induction m9 with
    | zero => intros; omega
    | succ m9 ih_4 =>
      intro  i n1 o0 ga hi kq hm_4
      have hn1 : n1 ≤ i := by rw [kq]; exact dmgN_le _ i
      refine x_iload_n hC d_MessageCoderModel_damaged_4 rfl rfl ?_
      refine x_aload_n hC d_MessageCoderModel_damaged_5 rfl rfl ?_
      refine x_getf hC kf_MessageCoderModel_9 o0 rfl d_MessageCoderModel_damaged_6 ?_
      refine x_bipush hC d_MessageCoderModel_damaged_9 (v := nI 7) (by decide) ?_
      refine x_iald hC ga (j := 7) ⟨rfl, by omega, by omega⟩ (x := nI (A.2.2.2.1.1 * 7)) (congrArg nI q7) d_MessageCoderModel_damaged_11 ?_
      refine x_bipush hC d_MessageCoderModel_damaged_12 (v := nI 7) (by decide) ?_
      refine x_idiv hC d_MessageCoderModel_damaged_14 (x_ne0 (by omega) (by omega)) (v := (nI (A.2.2.2.1.1))) ((pk_div (by omega) (by omega) (by omega)).trans (congrArg nI (by omega))) ?_
      refine x_icmpN_ge hC d_MessageCoderModel_damaged_15 (tgt := 40) (by decide) (by omega) (by omega) (fun c_15 => ?_) (fun c_15 => ?_)
      · skip
        refine x_iload_n hC d_MessageCoderModel_damaged_40 rfl rfl ?_
        exact hret _ _ _ _ _ _ _ d_MessageCoderModel_damaged_41 (by decide) (by decide) rfl (⟨by rw [kq, show i = A.2.2.2.1.1 by omega], rfl, rfl⟩)
      · skip
        refine x_iload_n hC d_MessageCoderModel_damaged_18 rfl rfl ?_
        refine x_aload_n hC d_MessageCoderModel_damaged_19 rfl rfl ?_
        refine x_iload_n hC d_MessageCoderModel_damaged_20 rfl rfl ?_
        refine x_callV hC kv_MessageCoderModel_100 (c_MessageCoderModel_syndromeOf (o0 := o0) (ga := ga) (hr := hr) (hA := hA) (hb := by omega)) o0 rfl rfl (by decide) rfl rfl rfl (Nat.le_of_ble_eq_true rfl) (by decide) d_MessageCoderModel_damaged_21 (fun r9 F9 z9 hp9 => ?_)
        obtain ⟨rfl, h9b, h9c⟩ := hp9
        rw [h9b, h9c]
        clear h9b h9c F9 z9
        have hs7 := syn_le (A.2.2.2.1.2.1 i)
        refine x_ifN_eq hC d_MessageCoderModel_damaged_24 (tgt := 31) (by decide) (by omega) (fun c_24 => ?_) (fun c_24 => ?_)
        · skip
          refine x_iconst hC d_MessageCoderModel_damaged_31 (v := nI 0) (by decide) ?_
          refine x_iadd hC d_MessageCoderModel_damaged_32 (v := (nI (n1))) (x_addN (by omega)) ?_
          refine x_istore_n hC d_MessageCoderModel_damaged_33 rfl (Nat.le_of_ble_eq_true rfl) (L1 := [some (.ref m), some (.int (nI (n1))), some (.int (nI (i)))]) rfl ?_
          refine x_iinc hC d_MessageCoderModel_damaged_34 rfl (v := (nI (i + 1))) (x_incN 1) (Nat.le_of_ble_eq_true rfl) (L1 := [some (.ref m), some (.int (nI (n1))), some (.int (nI (i + 1)))]) rfl ?_
          refine x_goto hC d_MessageCoderModel_damaged_37 (tgt := 4) (by decide) ?_
          exact ih_4  (i + 1) (n1) o0 ga (by omega) (by first | (rw [kq, dmgN, if_pos (by omega)]; done) | (rw [kq, dmgN, if_neg (by omega)])) (by omega)
        · skip
          refine x_iconst hC d_MessageCoderModel_damaged_27 (v := nI 1) (by decide) ?_
          refine x_goto hC d_MessageCoderModel_damaged_28 (tgt := 32) (by decide) ?_
          refine x_iadd hC d_MessageCoderModel_damaged_32 (v := (nI (n1 + 1))) (x_addN (by omega)) ?_
          refine x_istore_n hC d_MessageCoderModel_damaged_33 rfl (Nat.le_of_ble_eq_true rfl) (L1 := [some (.ref m), some (.int (nI (n1 + 1))), some (.int (nI (i)))]) rfl ?_
          refine x_iinc hC d_MessageCoderModel_damaged_34 rfl (v := (nI (i + 1))) (x_incN 1) (Nat.le_of_ble_eq_true rfl) (L1 := [some (.ref m), some (.int (nI (n1 + 1))), some (.int (nI (i + 1)))]) rfl ?_
          refine x_goto hC d_MessageCoderModel_damaged_37 (tgt := 4) (by decide) ?_
          exact ih_4  (i + 1) (n1 + 1) o0 ga (by omega) (by first | (rw [kq, dmgN, if_pos (by omega)]; done) | (rw [kq, dmgN, if_neg (by omega)])) (by omega)
  exact loop_4 (A.2.2.2.1.1 - 0 + 1)  (0) (0) o0 ga (by omega) (rfl) (by omega)

theorem d_MessageCoderModel_corrected_0 : decode prog_14_method_24_code 0 = .ok (.aload_n 0, 1) := by decide +kernel
theorem d_MessageCoderModel_corrected_1 : decode prog_14_method_24_code 1 = .ok (.iload_n 1, 1) := by decide +kernel
theorem d_MessageCoderModel_corrected_2 : decode prog_14_method_24_code 2 = .ok (.iload_n 2, 1) := by decide +kernel
theorem d_MessageCoderModel_corrected_3 : decode prog_14_method_24_code 3 = .ok (.invokevirtual 97, 3) := by decide +kernel
theorem d_MessageCoderModel_corrected_6 : decode prog_14_method_24_code 6 = .ok (.aload_n 0, 1) := by decide +kernel
theorem d_MessageCoderModel_corrected_7 : decode prog_14_method_24_code 7 = .ok (.iload_n 1, 1) := by decide +kernel
theorem d_MessageCoderModel_corrected_8 : decode prog_14_method_24_code 8 = .ok (.invokevirtual 100, 3) := by decide +kernel
theorem d_MessageCoderModel_corrected_11 : decode prog_14_method_24_code 11 = .ok (.iload_n 2, 1) := by decide +kernel
theorem d_MessageCoderModel_corrected_12 : decode prog_14_method_24_code 12 = .ok (.iconst 1, 1) := by decide +kernel
theorem d_MessageCoderModel_corrected_13 : decode prog_14_method_24_code 13 = .ok (.iadd, 1) := by decide +kernel
theorem d_MessageCoderModel_corrected_14 : decode prog_14_method_24_code 14 = .ok (.if_icmp .ne 7, 3) := by decide +kernel
theorem d_MessageCoderModel_corrected_17 : decode prog_14_method_24_code 17 = .ok (.iconst 1, 1) := by decide +kernel
theorem d_MessageCoderModel_corrected_18 : decode prog_14_method_24_code 18 = .ok (.goto 4, 3) := by decide +kernel
theorem d_MessageCoderModel_corrected_21 : decode prog_14_method_24_code 21 = .ok (.iconst 0, 1) := by decide +kernel
theorem d_MessageCoderModel_corrected_22 : decode prog_14_method_24_code 22 = .ok (.ixor, 1) := by decide +kernel
theorem d_MessageCoderModel_corrected_23 : decode prog_14_method_24_code 23 = .ok (.ireturn, 1) := by decide +kernel
set_option maxHeartbeats 4000000 in
set_option maxRecDepth 20000 in
theorem c_MessageCoderModel_corrected {P : xP} {F : xF} {z : Nat} {m : Nat} {th : Nat} {ch : Nat} {sv : Nat} {rs : Int32} {bm : Nat} {dm : Nat} {lz : Nat} {ty : Nat} {he : Nat} {er : Int32} {ea : Int32} {fa : Int32} {cn : Nat} {g : Nat → Nat} {A : aS} {b : Nat} {u : Nat} (o0 : F (m) = some (.inl (10, [.int (nI (th)), .ref (m + 1), .int (nI (ch)), .int (nI (sv)), .int rs, .ref (m + 2), .ref (m + 3), .ref (m + 4), .ref (m + 5), .ref (m + 6), .int (nI (bm)), .ref (m + 7), .int (nI (dm)), .ref (m + 8), .ref (m + 9), .int (nI (lz)), .ref (m + 10), .int (nI (ty)), .int (nI (he)), .int er, .int ea, .int fa, .ref (m + 11), .int (nI (cn))]))) (ga : F (m + 1) = some (.inr (0, 4730, fun b9 => .int (nI (g b9))))) (hr : rRow g A) (hA : aInv A) (hb : b < A.2.2.2.1.1) (hu : u < 7) : xM P xy_MessageCoderModel_corrected [.ref m, .int (nI (b)), .int (nI (u))] F (z) 0 0 (fun r9 F9 z9 => r9 = some (.int (nI (bitP (corN (A.2.2.2.1.2.1 b)) (u + 1)))) ∧ F9 = F ∧ z9 = z) := by
  refine xM_i .int rfl (Nat.le_of_ble_eq_true rfl) (L0 := [some (.ref m), some (.int (nI (b))), some (.int (nI (u)))]) rfl rfl fun Θ hC hret => ?_
  have hx8 := hA.2.2.2.2.2.2.2.1 b hb
  have hs7 := syn_le (A.2.2.2.1.2.1 b)
  have hcb := cor_bit _ hx8 u hu
  refine x_aload_n hC d_MessageCoderModel_corrected_0 rfl rfl ?_
  refine x_iload_n hC d_MessageCoderModel_corrected_1 rfl rfl ?_
  refine x_iload_n hC d_MessageCoderModel_corrected_2 rfl rfl ?_
  refine x_callV hC kv_MessageCoderModel_97 (c_MessageCoderModel_fb (o0 := o0) (ga := ga) (hr := hr) (hA := hA) (hb := hb) (hu := hu)) o0 rfl rfl (by decide) rfl rfl rfl (Nat.le_of_ble_eq_true rfl) (by decide) d_MessageCoderModel_corrected_3 (fun r9 F9 z9 hp9 => ?_)
  obtain ⟨rfl, h9b, h9c⟩ := hp9
  rw [h9b, h9c]
  clear h9b h9c F9 z9
  refine x_aload_n hC d_MessageCoderModel_corrected_6 rfl rfl ?_
  refine x_iload_n hC d_MessageCoderModel_corrected_7 rfl rfl ?_
  refine x_callV hC kv_MessageCoderModel_100 (c_MessageCoderModel_syndromeOf (o0 := o0) (ga := ga) (hr := hr) (hA := hA) (hb := hb)) o0 rfl rfl (by decide) rfl rfl rfl (Nat.le_of_ble_eq_true rfl) (by decide) d_MessageCoderModel_corrected_8 (fun r9 F9 z9 hp9 => ?_)
  obtain ⟨rfl, h9b, h9c⟩ := hp9
  rw [h9b, h9c]
  clear h9b h9c F9 z9
  refine x_iload_n hC d_MessageCoderModel_corrected_11 rfl rfl ?_
  refine x_iconst hC d_MessageCoderModel_corrected_12 (v := nI 1) (by decide) ?_
  refine x_iadd hC d_MessageCoderModel_corrected_13 (v := (nI (u + 1))) (x_addN (by omega)) ?_
  refine x_icmpN_ne hC d_MessageCoderModel_corrected_14 (tgt := 21) (by decide) (by omega) (by omega) (fun c_14 => ?_) (fun c_14 => ?_)
  · skip
    refine x_iconst hC d_MessageCoderModel_corrected_21 (v := nI 0) (by decide) ?_
    refine x_ixor hC d_MessageCoderModel_corrected_22 (v := (nI (bitP (A.2.2.2.1.2.1 b) (u + 1) ^^^ 0))) (x_xorN _ _) ?_
    exact hret _ _ _ _ _ _ _ d_MessageCoderModel_corrected_23 (by decide) (by decide) rfl (⟨congrArg (fun q => some (Value.int (nI q))) (by rw [← hcb, if_neg c_14]), rfl, rfl⟩)
  · skip
    refine x_iconst hC d_MessageCoderModel_corrected_17 (v := nI 1) (by decide) ?_
    refine x_goto hC d_MessageCoderModel_corrected_18 (tgt := 22) (by decide) ?_
    refine x_ixor hC d_MessageCoderModel_corrected_22 (v := (nI (bitP (A.2.2.2.1.2.1 b) (u + 1) ^^^ 1))) (x_xorN _ _) ?_
    exact hret _ _ _ _ _ _ _ d_MessageCoderModel_corrected_23 (by decide) (by decide) rfl (⟨congrArg (fun q => some (Value.int (nI q))) (by rw [← hcb, if_pos c_14]), rfl, rfl⟩)

theorem d_MessageCoderModel_numberOf_0 : decode prog_14_method_25_code 0 = .ok (.bipush 8, 2) := by decide +kernel
theorem d_MessageCoderModel_numberOf_2 : decode prog_14_method_25_code 2 = .ok (.aload_n 0, 1) := by decide +kernel
theorem d_MessageCoderModel_numberOf_3 : decode prog_14_method_25_code 3 = .ok (.iload_n 1, 1) := by decide +kernel
theorem d_MessageCoderModel_numberOf_4 : decode prog_14_method_25_code 4 = .ok (.iconst 2, 1) := by decide +kernel
theorem d_MessageCoderModel_numberOf_5 : decode prog_14_method_25_code 5 = .ok (.invokevirtual 103, 3) := by decide +kernel
theorem d_MessageCoderModel_numberOf_8 : decode prog_14_method_25_code 8 = .ok (.imul, 1) := by decide +kernel
theorem d_MessageCoderModel_numberOf_9 : decode prog_14_method_25_code 9 = .ok (.iconst 4, 1) := by decide +kernel
theorem d_MessageCoderModel_numberOf_10 : decode prog_14_method_25_code 10 = .ok (.aload_n 0, 1) := by decide +kernel
theorem d_MessageCoderModel_numberOf_11 : decode prog_14_method_25_code 11 = .ok (.iload_n 1, 1) := by decide +kernel
theorem d_MessageCoderModel_numberOf_12 : decode prog_14_method_25_code 12 = .ok (.iconst 4, 1) := by decide +kernel
theorem d_MessageCoderModel_numberOf_13 : decode prog_14_method_25_code 13 = .ok (.invokevirtual 103, 3) := by decide +kernel
theorem d_MessageCoderModel_numberOf_16 : decode prog_14_method_25_code 16 = .ok (.imul, 1) := by decide +kernel
theorem d_MessageCoderModel_numberOf_17 : decode prog_14_method_25_code 17 = .ok (.iadd, 1) := by decide +kernel
theorem d_MessageCoderModel_numberOf_18 : decode prog_14_method_25_code 18 = .ok (.iconst 2, 1) := by decide +kernel
theorem d_MessageCoderModel_numberOf_19 : decode prog_14_method_25_code 19 = .ok (.aload_n 0, 1) := by decide +kernel
theorem d_MessageCoderModel_numberOf_20 : decode prog_14_method_25_code 20 = .ok (.iload_n 1, 1) := by decide +kernel
theorem d_MessageCoderModel_numberOf_21 : decode prog_14_method_25_code 21 = .ok (.iconst 5, 1) := by decide +kernel
theorem d_MessageCoderModel_numberOf_22 : decode prog_14_method_25_code 22 = .ok (.invokevirtual 103, 3) := by decide +kernel
theorem d_MessageCoderModel_numberOf_25 : decode prog_14_method_25_code 25 = .ok (.imul, 1) := by decide +kernel
theorem d_MessageCoderModel_numberOf_26 : decode prog_14_method_25_code 26 = .ok (.iadd, 1) := by decide +kernel
theorem d_MessageCoderModel_numberOf_27 : decode prog_14_method_25_code 27 = .ok (.aload_n 0, 1) := by decide +kernel
theorem d_MessageCoderModel_numberOf_28 : decode prog_14_method_25_code 28 = .ok (.iload_n 1, 1) := by decide +kernel
theorem d_MessageCoderModel_numberOf_29 : decode prog_14_method_25_code 29 = .ok (.bipush 6, 2) := by decide +kernel
theorem d_MessageCoderModel_numberOf_31 : decode prog_14_method_25_code 31 = .ok (.invokevirtual 103, 3) := by decide +kernel
theorem d_MessageCoderModel_numberOf_34 : decode prog_14_method_25_code 34 = .ok (.iadd, 1) := by decide +kernel
theorem d_MessageCoderModel_numberOf_35 : decode prog_14_method_25_code 35 = .ok (.ireturn, 1) := by decide +kernel
set_option maxHeartbeats 4000000 in
set_option maxRecDepth 20000 in
theorem c_MessageCoderModel_numberOf {P : xP} {F : xF} {z : Nat} {m : Nat} {th : Nat} {ch : Nat} {sv : Nat} {rs : Int32} {bm : Nat} {dm : Nat} {lz : Nat} {ty : Nat} {he : Nat} {er : Int32} {ea : Int32} {fa : Int32} {cn : Nat} {g : Nat → Nat} {A : aS} {b : Nat} (o0 : F (m) = some (.inl (10, [.int (nI (th)), .ref (m + 1), .int (nI (ch)), .int (nI (sv)), .int rs, .ref (m + 2), .ref (m + 3), .ref (m + 4), .ref (m + 5), .ref (m + 6), .int (nI (bm)), .ref (m + 7), .int (nI (dm)), .ref (m + 8), .ref (m + 9), .int (nI (lz)), .ref (m + 10), .int (nI (ty)), .int (nI (he)), .int er, .int ea, .int fa, .ref (m + 11), .int (nI (cn))]))) (ga : F (m + 1) = some (.inr (0, 4730, fun b9 => .int (nI (g b9))))) (hr : rRow g A) (hA : aInv A) (hb : b < A.2.2.2.1.1) : xM P xy_MessageCoderModel_numberOf [.ref m, .int (nI (b))] F (z) 0 0 (fun r9 F9 z9 => r9 = some (.int (nI (datN (corN (A.2.2.2.1.2.1 b))))) ∧ F9 = F ∧ z9 = z) := by
  refine xM_i .int rfl (Nat.le_of_ble_eq_true rfl) (L0 := [some (.ref m), some (.int (nI (b)))]) rfl rfl fun Θ hC hret => ?_
  have hx8 := cor_lt _ (hA.2.2.2.2.2.2.2.1 b hb)
  refine x_bipush hC d_MessageCoderModel_numberOf_0 (v := nI 8) (by decide) ?_
  refine x_aload_n hC d_MessageCoderModel_numberOf_2 rfl rfl ?_
  refine x_iload_n hC d_MessageCoderModel_numberOf_3 rfl rfl ?_
  refine x_iconst hC d_MessageCoderModel_numberOf_4 (v := nI 2) (by decide) ?_
  refine x_callV hC kv_MessageCoderModel_103 (c_MessageCoderModel_corrected (o0 := o0) (ga := ga) (hr := hr) (hA := hA) (hb := hb) (hu := by omega)) o0 rfl rfl (by decide) rfl rfl rfl (Nat.le_of_ble_eq_true rfl) (by decide) d_MessageCoderModel_numberOf_5 (fun r9 F9 z9 hp9 => ?_)
  obtain ⟨rfl, h9b, h9c⟩ := hp9
  rw [h9b, h9c]
  clear h9b h9c F9 z9
  refine x_imul hC d_MessageCoderModel_numberOf_8 (v := (nI ((8) * (bitP (corN (A.2.2.2.1.2.1 b)) (2 + 1))))) (pk_mul _ _) ?_
  refine x_iconst hC d_MessageCoderModel_numberOf_9 (v := nI 4) (by decide) ?_
  refine x_aload_n hC d_MessageCoderModel_numberOf_10 rfl rfl ?_
  refine x_iload_n hC d_MessageCoderModel_numberOf_11 rfl rfl ?_
  refine x_iconst hC d_MessageCoderModel_numberOf_12 (v := nI 4) (by decide) ?_
  refine x_callV hC kv_MessageCoderModel_103 (c_MessageCoderModel_corrected (o0 := o0) (ga := ga) (hr := hr) (hA := hA) (hb := hb) (hu := by omega)) o0 rfl rfl (by decide) rfl rfl rfl (Nat.le_of_ble_eq_true rfl) (by decide) d_MessageCoderModel_numberOf_13 (fun r9 F9 z9 hp9 => ?_)
  obtain ⟨rfl, h9b, h9c⟩ := hp9
  rw [h9b, h9c]
  clear h9b h9c F9 z9
  refine x_imul hC d_MessageCoderModel_numberOf_16 (v := (nI ((4) * (bitP (corN (A.2.2.2.1.2.1 b)) (4 + 1))))) (pk_mul _ _) ?_
  refine x_iadd hC d_MessageCoderModel_numberOf_17 (v := (nI (((8) * (bitP (corN (A.2.2.2.1.2.1 b)) (2 + 1))) + ((4) * (bitP (corN (A.2.2.2.1.2.1 b)) (4 + 1)))))) (x_addN (by omega)) ?_
  refine x_iconst hC d_MessageCoderModel_numberOf_18 (v := nI 2) (by decide) ?_
  refine x_aload_n hC d_MessageCoderModel_numberOf_19 rfl rfl ?_
  refine x_iload_n hC d_MessageCoderModel_numberOf_20 rfl rfl ?_
  refine x_iconst hC d_MessageCoderModel_numberOf_21 (v := nI 5) (by decide) ?_
  refine x_callV hC kv_MessageCoderModel_103 (c_MessageCoderModel_corrected (o0 := o0) (ga := ga) (hr := hr) (hA := hA) (hb := hb) (hu := by omega)) o0 rfl rfl (by decide) rfl rfl rfl (Nat.le_of_ble_eq_true rfl) (by decide) d_MessageCoderModel_numberOf_22 (fun r9 F9 z9 hp9 => ?_)
  obtain ⟨rfl, h9b, h9c⟩ := hp9
  rw [h9b, h9c]
  clear h9b h9c F9 z9
  refine x_imul hC d_MessageCoderModel_numberOf_25 (v := (nI ((2) * (bitP (corN (A.2.2.2.1.2.1 b)) (5 + 1))))) (pk_mul _ _) ?_
  refine x_iadd hC d_MessageCoderModel_numberOf_26 (v := (nI ((((8) * (bitP (corN (A.2.2.2.1.2.1 b)) (2 + 1))) + ((4) * (bitP (corN (A.2.2.2.1.2.1 b)) (4 + 1)))) + ((2) * (bitP (corN (A.2.2.2.1.2.1 b)) (5 + 1)))))) (x_addN (by omega)) ?_
  refine x_aload_n hC d_MessageCoderModel_numberOf_27 rfl rfl ?_
  refine x_iload_n hC d_MessageCoderModel_numberOf_28 rfl rfl ?_
  refine x_bipush hC d_MessageCoderModel_numberOf_29 (v := nI 6) (by decide) ?_
  refine x_callV hC kv_MessageCoderModel_103 (c_MessageCoderModel_corrected (o0 := o0) (ga := ga) (hr := hr) (hA := hA) (hb := hb) (hu := by omega)) o0 rfl rfl (by decide) rfl rfl rfl (Nat.le_of_ble_eq_true rfl) (by decide) d_MessageCoderModel_numberOf_31 (fun r9 F9 z9 hp9 => ?_)
  obtain ⟨rfl, h9b, h9c⟩ := hp9
  rw [h9b, h9c]
  clear h9b h9c F9 z9
  refine x_iadd hC d_MessageCoderModel_numberOf_34 (v := (nI (((((8) * (bitP (corN (A.2.2.2.1.2.1 b)) (2 + 1))) + ((4) * (bitP (corN (A.2.2.2.1.2.1 b)) (4 + 1)))) + ((2) * (bitP (corN (A.2.2.2.1.2.1 b)) (5 + 1)))) + (bitP (corN (A.2.2.2.1.2.1 b)) (6 + 1))))) (x_addN (by omega)) ?_
  exact hret _ _ _ _ _ _ _ d_MessageCoderModel_numberOf_35 (by decide) (by decide) rfl (⟨congrArg (fun q => some (Value.int (nI q))) (num_dat _ hx8), rfl, rfl⟩)

theorem d_MessageCoderModel_symbolOf_0 : decode prog_14_method_27_code 0 = .ok (.iconst (-1), 1) := by decide +kernel
theorem d_MessageCoderModel_symbolOf_1 : decode prog_14_method_27_code 1 = .ok (.istore_n 3, 1) := by decide +kernel
theorem d_MessageCoderModel_symbolOf_2 : decode prog_14_method_27_code 2 = .ok (.iconst 0, 1) := by decide +kernel
theorem d_MessageCoderModel_symbolOf_3 : decode prog_14_method_27_code 3 = .ok (.istore 4, 2) := by decide +kernel
theorem d_MessageCoderModel_symbolOf_5 : decode prog_14_method_27_code 5 = .ok (.iload 4, 2) := by decide +kernel
theorem d_MessageCoderModel_symbolOf_7 : decode prog_14_method_27_code 7 = .ok (.bipush 8, 2) := by decide +kernel
theorem d_MessageCoderModel_symbolOf_9 : decode prog_14_method_27_code 9 = .ok (.if_icmp .ge 46, 3) := by decide +kernel
theorem d_MessageCoderModel_symbolOf_12 : decode prog_14_method_27_code 12 = .ok (.aload_n 0, 1) := by decide +kernel
theorem d_MessageCoderModel_symbolOf_13 : decode prog_14_method_27_code 13 = .ok (.getfield 9, 3) := by decide +kernel
theorem d_MessageCoderModel_symbolOf_16 : decode prog_14_method_27_code 16 = .ok (.sipush 186, 3) := by decide +kernel
theorem d_MessageCoderModel_symbolOf_19 : decode prog_14_method_27_code 19 = .ok (.iload 4, 2) := by decide +kernel
theorem d_MessageCoderModel_symbolOf_21 : decode prog_14_method_27_code 21 = .ok (.iadd, 1) := by decide +kernel
theorem d_MessageCoderModel_symbolOf_22 : decode prog_14_method_27_code 22 = .ok (.iaload, 1) := by decide +kernel
theorem d_MessageCoderModel_symbolOf_23 : decode prog_14_method_27_code 23 = .ok (.iload_n 2, 1) := by decide +kernel
theorem d_MessageCoderModel_symbolOf_24 : decode prog_14_method_27_code 24 = .ok (.if_icmp .ne 23, 3) := by decide +kernel
theorem d_MessageCoderModel_symbolOf_27 : decode prog_14_method_27_code 27 = .ok (.aload_n 0, 1) := by decide +kernel
theorem d_MessageCoderModel_symbolOf_28 : decode prog_14_method_27_code 28 = .ok (.getfield 9, 3) := by decide +kernel
theorem d_MessageCoderModel_symbolOf_31 : decode prog_14_method_27_code 31 = .ok (.sipush 194, 3) := by decide +kernel
theorem d_MessageCoderModel_symbolOf_34 : decode prog_14_method_27_code 34 = .ok (.iload 4, 2) := by decide +kernel
theorem d_MessageCoderModel_symbolOf_36 : decode prog_14_method_27_code 36 = .ok (.iadd, 1) := by decide +kernel
theorem d_MessageCoderModel_symbolOf_37 : decode prog_14_method_27_code 37 = .ok (.iaload, 1) := by decide +kernel
theorem d_MessageCoderModel_symbolOf_38 : decode prog_14_method_27_code 38 = .ok (.iload_n 1, 1) := by decide +kernel
theorem d_MessageCoderModel_symbolOf_39 : decode prog_14_method_27_code 39 = .ok (.if_icmp .ne 8, 3) := by decide +kernel
theorem d_MessageCoderModel_symbolOf_42 : decode prog_14_method_27_code 42 = .ok (.iload 4, 2) := by decide +kernel
theorem d_MessageCoderModel_symbolOf_44 : decode prog_14_method_27_code 44 = .ok (.goto 4, 3) := by decide +kernel
theorem d_MessageCoderModel_symbolOf_47 : decode prog_14_method_27_code 47 = .ok (.iload_n 3, 1) := by decide +kernel
theorem d_MessageCoderModel_symbolOf_48 : decode prog_14_method_27_code 48 = .ok (.istore_n 3, 1) := by decide +kernel
theorem d_MessageCoderModel_symbolOf_49 : decode prog_14_method_27_code 49 = .ok (.iinc 4 1, 3) := by decide +kernel
theorem d_MessageCoderModel_symbolOf_52 : decode prog_14_method_27_code 52 = .ok (.goto (-47), 3) := by decide +kernel
theorem d_MessageCoderModel_symbolOf_55 : decode prog_14_method_27_code 55 = .ok (.iload_n 3, 1) := by decide +kernel
theorem d_MessageCoderModel_symbolOf_56 : decode prog_14_method_27_code 56 = .ok (.ireturn, 1) := by decide +kernel
set_option maxHeartbeats 4000000 in
set_option maxRecDepth 20000 in
theorem c_MessageCoderModel_symbolOf {P : xP} {F : xF} {z : Nat} {m : Nat} {th : Nat} {ch : Nat} {sv : Nat} {rs : Int32} {bm : Nat} {dm : Nat} {lz : Nat} {ty : Nat} {he : Nat} {er : Int32} {ea : Int32} {fa : Int32} {cn : Nat} {g : Nat → Nat} {A : aS} {v : Int32} {l : Nat} (o0 : F (m) = some (.inl (10, [.int (nI (th)), .ref (m + 1), .int (nI (ch)), .int (nI (sv)), .int rs, .ref (m + 2), .ref (m + 3), .ref (m + 4), .ref (m + 5), .ref (m + 6), .int (nI (bm)), .ref (m + 7), .int (nI (dm)), .ref (m + 8), .ref (m + 9), .int (nI (lz)), .ref (m + 10), .int (nI (ty)), .int (nI (he)), .int er, .int ea, .int fa, .ref (m + 11), .int (nI (cn))]))) (ga : F (m + 1) = some (.inr (0, 4730, fun b9 => .int (nI (g b9))))) (hr : rRow g A) (hA : aInv A) (hfk : 0 < A.2.2.2.1.1) (hl : l < 10000) : xM P xy_MessageCoderModel_symbolOf [.ref m, .int v, .int (nI (l))] F (z) 0 0 (fun r9 F9 z9 => r9 = some (.int (xo (symI (hLen A.2.2.2.1.2.2.2.2) (hVal (hLen A.2.2.2.1.2.2.2.2)) v l 8))) ∧ F9 = F ∧ z9 = z) := by
  refine xM_i .int rfl (Nat.le_of_ble_eq_true rfl) (L0 := [some (.ref m), some (.int v), some (.int (nI (l))), none, none]) rfl rfl fun Θ hC hret => ?_
  obtain ⟨⟨q0, q1, q2, q3, q4, q5, q6, q7, q9⟩, qw, qd, qm, qf, qx, qb⟩ := id hr
  obtain ⟨⟨u1, u2, u3, u4, u5⟩, uw, ud, um, uo, ut, ux, ub, un9⟩ := id hA
  obtain ⟨qf1, qf2, qf3⟩ := qf hfk
  refine x_iconst hC d_MessageCoderModel_symbolOf_0 (v := -1) (by decide) ?_
  refine x_top (v := (xo 8)) xo_8.symm ?_
  refine x_istore_n hC d_MessageCoderModel_symbolOf_1 rfl (Nat.le_of_ble_eq_true rfl) (L1 := [some (.ref m), some (.int v), some (.int (nI (l))), some (.int (xo 8)), none]) rfl ?_
  refine x_iconst hC d_MessageCoderModel_symbolOf_2 (v := nI 0) (by decide) ?_
  refine x_istore hC d_MessageCoderModel_symbolOf_3 (Nat.le_of_ble_eq_true rfl) (L1 := [some (.ref m), some (.int v), some (.int (nI (l))), some (.int (xo 8)), some (.int (nI 0))]) rfl ?_
  have loop_5 : ∀ (m9 : Nat) (i : Nat) (f : Nat), (F (m) = some (.inl (10, [.int (nI (th)), .ref (m + 1), .int (nI (ch)), .int (nI (sv)), .int rs, .ref (m + 2), .ref (m + 3), .ref (m + 4), .ref (m + 5), .ref (m + 6), .int (nI (bm)), .ref (m + 7), .int (nI (dm)), .ref (m + 8), .ref (m + 9), .int (nI (lz)), .ref (m + 10), .int (nI (ty)), .int (nI (he)), .int er, .int ea, .int fa, .ref (m + 11), .int (nI (cn))]))) → (F (m + 1) = some (.inr (0, 4730, fun b9 => .int (nI (g b9))))) → (i ≤ 8) → (f = symI (hLen A.2.2.2.1.2.2.2.2) (hVal (hLen A.2.2.2.1.2.2.2.2)) v l i) → (8 - i < m9) → xX P Θ 5 [some (.ref m), some (.int v), some (.int (nI (l))), some (.int (xo (f))), some (.int (nI (i)))] [] F (z) 0 0 := by
    intro m9
    induction m9 with
    | zero => intros; omega
    | succ m9 ih_5 =>
      intro  i f o0 ga hi kf hm_5
      refine x_iload hC d_MessageCoderModel_symbolOf_5 rfl ?_
      refine x_bipush hC d_MessageCoderModel_symbolOf_7 (v := nI 8) (by decide) ?_
      refine x_icmpN_ge hC d_MessageCoderModel_symbolOf_9 (tgt := 55) (by decide) (by omega) (by omega) (fun c_9 => ?_) (fun c_9 => ?_)
      · skip
        refine x_iload_n hC d_MessageCoderModel_symbolOf_55 rfl rfl ?_
        exact hret _ _ _ _ _ _ _ d_MessageCoderModel_symbolOf_56 (by decide) (by decide) rfl (⟨by rw [kf, show i = 8 by omega], rfl, rfl⟩)
      · skip
        have e9 := qf2 i (by omega)
        have hl7 := hLen_7 A.2.2.2.1.2.2.2.2 (show i < 8 by omega)
        have hv7 := hVal_bd hl7
        refine x_aload_n hC d_MessageCoderModel_symbolOf_12 rfl rfl ?_
        refine x_getf hC kf_MessageCoderModel_9 o0 rfl d_MessageCoderModel_symbolOf_13 ?_
        refine x_sipush hC d_MessageCoderModel_symbolOf_16 (v := nI 186) (by decide) ?_
        refine x_iload hC d_MessageCoderModel_symbolOf_19 rfl ?_
        refine x_iadd hC d_MessageCoderModel_symbolOf_21 (v := (nI (186 + i))) (x_addN (by omega)) ?_
        refine x_iald hC ga (j := 186 + i) ⟨rfl, by omega, by omega⟩ (x := nI (hLen A.2.2.2.1.2.2.2.2 i)) (congrArg nI e9.1) d_MessageCoderModel_symbolOf_22 ?_
        refine x_iload_n hC d_MessageCoderModel_symbolOf_23 rfl rfl ?_
        refine x_icmpN_ne hC d_MessageCoderModel_symbolOf_24 (tgt := 47) (by decide) (by omega) (by omega) (fun c_24 => ?_) (fun c_24 => ?_)
        · skip
          refine x_iload_n hC d_MessageCoderModel_symbolOf_47 rfl rfl ?_
          refine x_istore_n hC d_MessageCoderModel_symbolOf_48 rfl (Nat.le_of_ble_eq_true rfl) (L1 := [some (.ref m), some (.int v), some (.int (nI (l))), some (.int (xo (f))), some (.int (nI (i)))]) rfl ?_
          refine x_iinc hC d_MessageCoderModel_symbolOf_49 rfl (v := (nI (i + 1))) (x_incN 1) (Nat.le_of_ble_eq_true rfl) (L1 := [some (.ref m), some (.int v), some (.int (nI (l))), some (.int (xo (f))), some (.int (nI (i + 1)))]) rfl ?_
          refine x_goto hC d_MessageCoderModel_symbolOf_52 (tgt := 5) (by decide) ?_
          exact ih_5  (i + 1) (f) o0 ga (by omega) (by first | (rw [kf, symI]; by_cases h8 : symI (hLen A.2.2.2.1.2.2.2.2) (hVal (hLen A.2.2.2.1.2.2.2.2)) v l i < 8; (rw [if_pos h8]); (rw [if_neg h8, if_neg (fun h9 => c_24 h9.1)]; have := symI_le (hLen A.2.2.2.1.2.2.2.2) (hVal (hLen A.2.2.2.1.2.2.2.2)) v l i (by omega); omega)) | (rw [kf, symI]; by_cases h8 : symI (hLen A.2.2.2.1.2.2.2.2) (hVal (hLen A.2.2.2.1.2.2.2.2)) v l i < 8; (rw [if_pos h8]); (rw [if_neg h8, if_neg (fun h9 => c_39 h9.2)]; have := symI_le (hLen A.2.2.2.1.2.2.2.2) (hVal (hLen A.2.2.2.1.2.2.2.2)) v l i (by omega); omega)) | (rw [symI]; by_cases h8 : symI (hLen A.2.2.2.1.2.2.2.2) (hVal (hLen A.2.2.2.1.2.2.2.2)) v l i < 8; (have h7 := symI_sp _ _ v l i (by omega) h8; have h6 := hVal_inj (ln := hLen A.2.2.2.1.2.2.2.2) (i := symI (hLen A.2.2.2.1.2.2.2.2) (hVal (hLen A.2.2.2.1.2.2.2.2)) v l i) (j := i) h8 (by omega) (h7.2.1.trans c_24.symm) (nI_inj (by have := hVal_bd (hLen_7 A.2.2.2.1.2.2.2.2 h8); omega) (by omega) (h7.2.2.trans c_39.symm)); omega); (rw [if_neg h8, if_pos ⟨c_24, c_39⟩]))) (by omega)
        · skip
          refine x_aload_n hC d_MessageCoderModel_symbolOf_27 rfl rfl ?_
          refine x_getf hC kf_MessageCoderModel_9 o0 rfl d_MessageCoderModel_symbolOf_28 ?_
          refine x_sipush hC d_MessageCoderModel_symbolOf_31 (v := nI 194) (by decide) ?_
          refine x_iload hC d_MessageCoderModel_symbolOf_34 rfl ?_
          refine x_iadd hC d_MessageCoderModel_symbolOf_36 (v := (nI (194 + i))) (x_addN (by omega)) ?_
          refine x_iald hC ga (j := 194 + i) ⟨rfl, by omega, by omega⟩ (x := nI (hVal (hLen A.2.2.2.1.2.2.2.2) i)) (congrArg nI e9.2) d_MessageCoderModel_symbolOf_37 ?_
          refine x_iload_n hC d_MessageCoderModel_symbolOf_38 rfl rfl ?_
          refine x_icmp_ne hC d_MessageCoderModel_symbolOf_39 (tgt := 47) (by decide) (fun c_39 => ?_) (fun c_39 => ?_)
          · skip
            refine x_iload_n hC d_MessageCoderModel_symbolOf_47 rfl rfl ?_
            refine x_istore_n hC d_MessageCoderModel_symbolOf_48 rfl (Nat.le_of_ble_eq_true rfl) (L1 := [some (.ref m), some (.int v), some (.int (nI (l))), some (.int (xo (f))), some (.int (nI (i)))]) rfl ?_
            refine x_iinc hC d_MessageCoderModel_symbolOf_49 rfl (v := (nI (i + 1))) (x_incN 1) (Nat.le_of_ble_eq_true rfl) (L1 := [some (.ref m), some (.int v), some (.int (nI (l))), some (.int (xo (f))), some (.int (nI (i + 1)))]) rfl ?_
            refine x_goto hC d_MessageCoderModel_symbolOf_52 (tgt := 5) (by decide) ?_
            exact ih_5  (i + 1) (f) o0 ga (by omega) (by first | (rw [kf, symI]; by_cases h8 : symI (hLen A.2.2.2.1.2.2.2.2) (hVal (hLen A.2.2.2.1.2.2.2.2)) v l i < 8; (rw [if_pos h8]); (rw [if_neg h8, if_neg (fun h9 => c_24 h9.1)]; have := symI_le (hLen A.2.2.2.1.2.2.2.2) (hVal (hLen A.2.2.2.1.2.2.2.2)) v l i (by omega); omega)) | (rw [kf, symI]; by_cases h8 : symI (hLen A.2.2.2.1.2.2.2.2) (hVal (hLen A.2.2.2.1.2.2.2.2)) v l i < 8; (rw [if_pos h8]); (rw [if_neg h8, if_neg (fun h9 => c_39 h9.2)]; have := symI_le (hLen A.2.2.2.1.2.2.2.2) (hVal (hLen A.2.2.2.1.2.2.2.2)) v l i (by omega); omega)) | (rw [symI]; by_cases h8 : symI (hLen A.2.2.2.1.2.2.2.2) (hVal (hLen A.2.2.2.1.2.2.2.2)) v l i < 8; (have h7 := symI_sp _ _ v l i (by omega) h8; have h6 := hVal_inj (ln := hLen A.2.2.2.1.2.2.2.2) (i := symI (hLen A.2.2.2.1.2.2.2.2) (hVal (hLen A.2.2.2.1.2.2.2.2)) v l i) (j := i) h8 (by omega) (h7.2.1.trans c_24.symm) (nI_inj (by have := hVal_bd (hLen_7 A.2.2.2.1.2.2.2.2 h8); omega) (by omega) (h7.2.2.trans c_39.symm)); omega); (rw [if_neg h8, if_pos ⟨c_24, c_39⟩]))) (by omega)
          · skip
            refine x_iload hC d_MessageCoderModel_symbolOf_42 rfl ?_
            refine x_goto hC d_MessageCoderModel_symbolOf_44 (tgt := 48) (by decide) ?_
            refine x_top (v := (xo (i))) (xo_of (by omega)).symm ?_
            refine x_istore_n hC d_MessageCoderModel_symbolOf_48 rfl (Nat.le_of_ble_eq_true rfl) (L1 := [some (.ref m), some (.int v), some (.int (nI (l))), some (.int (xo (i))), some (.int (nI (i)))]) rfl ?_
            refine x_iinc hC d_MessageCoderModel_symbolOf_49 rfl (v := (nI (i + 1))) (x_incN 1) (Nat.le_of_ble_eq_true rfl) (L1 := [some (.ref m), some (.int v), some (.int (nI (l))), some (.int (xo (i))), some (.int (nI (i + 1)))]) rfl ?_
            refine x_goto hC d_MessageCoderModel_symbolOf_52 (tgt := 5) (by decide) ?_
            exact ih_5  (i + 1) (i) o0 ga (by omega) (by first | (rw [kf, symI]; by_cases h8 : symI (hLen A.2.2.2.1.2.2.2.2) (hVal (hLen A.2.2.2.1.2.2.2.2)) v l i < 8; (rw [if_pos h8]); (rw [if_neg h8, if_neg (fun h9 => c_24 h9.1)]; have := symI_le (hLen A.2.2.2.1.2.2.2.2) (hVal (hLen A.2.2.2.1.2.2.2.2)) v l i (by omega); omega)) | (rw [kf, symI]; by_cases h8 : symI (hLen A.2.2.2.1.2.2.2.2) (hVal (hLen A.2.2.2.1.2.2.2.2)) v l i < 8; (rw [if_pos h8]); (rw [if_neg h8, if_neg (fun h9 => c_39 h9.2)]; have := symI_le (hLen A.2.2.2.1.2.2.2.2) (hVal (hLen A.2.2.2.1.2.2.2.2)) v l i (by omega); omega)) | (rw [symI]; by_cases h8 : symI (hLen A.2.2.2.1.2.2.2.2) (hVal (hLen A.2.2.2.1.2.2.2.2)) v l i < 8; (have h7 := symI_sp _ _ v l i (by omega) h8; have h6 := hVal_inj (ln := hLen A.2.2.2.1.2.2.2.2) (i := symI (hLen A.2.2.2.1.2.2.2.2) (hVal (hLen A.2.2.2.1.2.2.2.2)) v l i) (j := i) h8 (by omega) (h7.2.1.trans c_24.symm) (nI_inj (by have := hVal_bd (hLen_7 A.2.2.2.1.2.2.2.2 h8); omega) (by omega) (h7.2.2.trans c_39.symm)); omega); (rw [if_neg h8, if_pos ⟨c_24, c_39⟩]))) (by omega)
  exact loop_5 (8 - 0 + 1)  (0) (8) o0 ga (by omega) (rfl) (by omega)

theorem d_MessageCoderModel_decodes_0 : decode prog_14_method_26_code 0 = .ok (.aload_n 0, 1) := by decide +kernel
theorem d_MessageCoderModel_decodes_1 : decode prog_14_method_26_code 1 = .ok (.iconst 0, 1) := by decide +kernel
theorem d_MessageCoderModel_decodes_2 : decode prog_14_method_26_code 2 = .ok (.putfield 106, 3) := by decide +kernel
theorem d_MessageCoderModel_decodes_5 : decode prog_14_method_26_code 5 = .ok (.iconst 0, 1) := by decide +kernel
theorem d_MessageCoderModel_decodes_6 : decode prog_14_method_26_code 6 = .ok (.istore_n 1, 1) := by decide +kernel
theorem d_MessageCoderModel_decodes_7 : decode prog_14_method_26_code 7 = .ok (.iconst 0, 1) := by decide +kernel
theorem d_MessageCoderModel_decodes_8 : decode prog_14_method_26_code 8 = .ok (.istore_n 2, 1) := by decide +kernel
theorem d_MessageCoderModel_decodes_9 : decode prog_14_method_26_code 9 = .ok (.iconst 0, 1) := by decide +kernel
theorem d_MessageCoderModel_decodes_10 : decode prog_14_method_26_code 10 = .ok (.istore_n 3, 1) := by decide +kernel
theorem d_MessageCoderModel_decodes_11 : decode prog_14_method_26_code 11 = .ok (.iload_n 3, 1) := by decide +kernel
theorem d_MessageCoderModel_decodes_12 : decode prog_14_method_26_code 12 = .ok (.aload_n 0, 1) := by decide +kernel
theorem d_MessageCoderModel_decodes_13 : decode prog_14_method_26_code 13 = .ok (.getfield 9, 3) := by decide +kernel
theorem d_MessageCoderModel_decodes_16 : decode prog_14_method_26_code 16 = .ok (.bipush 7, 2) := by decide +kernel
theorem d_MessageCoderModel_decodes_18 : decode prog_14_method_26_code 18 = .ok (.iaload, 1) := by decide +kernel
theorem d_MessageCoderModel_decodes_19 : decode prog_14_method_26_code 19 = .ok (.bipush 7, 2) := by decide +kernel
theorem d_MessageCoderModel_decodes_21 : decode prog_14_method_26_code 21 = .ok (.idiv, 1) := by decide +kernel
theorem d_MessageCoderModel_decodes_22 : decode prog_14_method_26_code 22 = .ok (.iconst 4, 1) := by decide +kernel
theorem d_MessageCoderModel_decodes_23 : decode prog_14_method_26_code 23 = .ok (.imul, 1) := by decide +kernel
theorem d_MessageCoderModel_decodes_24 : decode prog_14_method_26_code 24 = .ok (.if_icmp .ge 87, 3) := by decide +kernel
theorem d_MessageCoderModel_decodes_27 : decode prog_14_method_26_code 27 = .ok (.aload_n 0, 1) := by decide +kernel
theorem d_MessageCoderModel_decodes_28 : decode prog_14_method_26_code 28 = .ok (.getfield 106, 3) := by decide +kernel
theorem d_MessageCoderModel_decodes_31 : decode prog_14_method_26_code 31 = .ok (.aload_n 0, 1) := by decide +kernel
theorem d_MessageCoderModel_decodes_32 : decode prog_14_method_26_code 32 = .ok (.getfield 9, 3) := by decide +kernel
theorem d_MessageCoderModel_decodes_35 : decode prog_14_method_26_code 35 = .ok (.bipush 8, 2) := by decide +kernel
theorem d_MessageCoderModel_decodes_37 : decode prog_14_method_26_code 37 = .ok (.iaload, 1) := by decide +kernel
theorem d_MessageCoderModel_decodes_38 : decode prog_14_method_26_code 38 = .ok (.if_icmp .ge 73, 3) := by decide +kernel
theorem d_MessageCoderModel_decodes_41 : decode prog_14_method_26_code 41 = .ok (.iconst 2, 1) := by decide +kernel
theorem d_MessageCoderModel_decodes_42 : decode prog_14_method_26_code 42 = .ok (.iload_n 1, 1) := by decide +kernel
theorem d_MessageCoderModel_decodes_43 : decode prog_14_method_26_code 43 = .ok (.imul, 1) := by decide +kernel
theorem d_MessageCoderModel_decodes_44 : decode prog_14_method_26_code 44 = .ok (.aload_n 0, 1) := by decide +kernel
theorem d_MessageCoderModel_decodes_45 : decode prog_14_method_26_code 45 = .ok (.iload_n 3, 1) := by decide +kernel
theorem d_MessageCoderModel_decodes_46 : decode prog_14_method_26_code 46 = .ok (.iconst 4, 1) := by decide +kernel
theorem d_MessageCoderModel_decodes_47 : decode prog_14_method_26_code 47 = .ok (.idiv, 1) := by decide +kernel
theorem d_MessageCoderModel_decodes_48 : decode prog_14_method_26_code 48 = .ok (.invokevirtual 109, 3) := by decide +kernel
theorem d_MessageCoderModel_decodes_51 : decode prog_14_method_26_code 51 = .ok (.iconst 3, 1) := by decide +kernel
theorem d_MessageCoderModel_decodes_52 : decode prog_14_method_26_code 52 = .ok (.iload_n 3, 1) := by decide +kernel
theorem d_MessageCoderModel_decodes_53 : decode prog_14_method_26_code 53 = .ok (.iconst 4, 1) := by decide +kernel
theorem d_MessageCoderModel_decodes_54 : decode prog_14_method_26_code 54 = .ok (.irem, 1) := by decide +kernel
theorem d_MessageCoderModel_decodes_55 : decode prog_14_method_26_code 55 = .ok (.isub, 1) := by decide +kernel
theorem d_MessageCoderModel_decodes_56 : decode prog_14_method_26_code 56 = .ok (.ishr, 1) := by decide +kernel
theorem d_MessageCoderModel_decodes_57 : decode prog_14_method_26_code 57 = .ok (.iconst 1, 1) := by decide +kernel
theorem d_MessageCoderModel_decodes_58 : decode prog_14_method_26_code 58 = .ok (.iand, 1) := by decide +kernel
theorem d_MessageCoderModel_decodes_59 : decode prog_14_method_26_code 59 = .ok (.iadd, 1) := by decide +kernel
theorem d_MessageCoderModel_decodes_60 : decode prog_14_method_26_code 60 = .ok (.istore_n 1, 1) := by decide +kernel
theorem d_MessageCoderModel_decodes_61 : decode prog_14_method_26_code 61 = .ok (.iinc 2 1, 3) := by decide +kernel
theorem d_MessageCoderModel_decodes_64 : decode prog_14_method_26_code 64 = .ok (.aload_n 0, 1) := by decide +kernel
theorem d_MessageCoderModel_decodes_65 : decode prog_14_method_26_code 65 = .ok (.iload_n 1, 1) := by decide +kernel
theorem d_MessageCoderModel_decodes_66 : decode prog_14_method_26_code 66 = .ok (.iload_n 2, 1) := by decide +kernel
theorem d_MessageCoderModel_decodes_67 : decode prog_14_method_26_code 67 = .ok (.invokevirtual 112, 3) := by decide +kernel
theorem d_MessageCoderModel_decodes_70 : decode prog_14_method_26_code 70 = .ok (.istore 4, 2) := by decide +kernel
theorem d_MessageCoderModel_decodes_72 : decode prog_14_method_26_code 72 = .ok (.iload 4, 2) := by decide +kernel
theorem d_MessageCoderModel_decodes_74 : decode prog_14_method_26_code 74 = .ok (.ifCond .ge 6, 3) := by decide +kernel
theorem d_MessageCoderModel_decodes_77 : decode prog_14_method_26_code 77 = .ok (.goto 28, 3) := by decide +kernel
theorem d_MessageCoderModel_decodes_80 : decode prog_14_method_26_code 80 = .ok (.aload_n 0, 1) := by decide +kernel
theorem d_MessageCoderModel_decodes_81 : decode prog_14_method_26_code 81 = .ok (.getfield 28, 3) := by decide +kernel
theorem d_MessageCoderModel_decodes_84 : decode prog_14_method_26_code 84 = .ok (.aload_n 0, 1) := by decide +kernel
theorem d_MessageCoderModel_decodes_85 : decode prog_14_method_26_code 85 = .ok (.getfield 106, 3) := by decide +kernel
theorem d_MessageCoderModel_decodes_88 : decode prog_14_method_26_code 88 = .ok (.iload 4, 2) := by decide +kernel
theorem d_MessageCoderModel_decodes_90 : decode prog_14_method_26_code 90 = .ok (.iastore, 1) := by decide +kernel
theorem d_MessageCoderModel_decodes_91 : decode prog_14_method_26_code 91 = .ok (.aload_n 0, 1) := by decide +kernel
theorem d_MessageCoderModel_decodes_92 : decode prog_14_method_26_code 92 = .ok (.dup, 1) := by decide +kernel
theorem d_MessageCoderModel_decodes_93 : decode prog_14_method_26_code 93 = .ok (.getfield 106, 3) := by decide +kernel
theorem d_MessageCoderModel_decodes_96 : decode prog_14_method_26_code 96 = .ok (.iconst 1, 1) := by decide +kernel
theorem d_MessageCoderModel_decodes_97 : decode prog_14_method_26_code 97 = .ok (.iadd, 1) := by decide +kernel
theorem d_MessageCoderModel_decodes_98 : decode prog_14_method_26_code 98 = .ok (.putfield 106, 3) := by decide +kernel
theorem d_MessageCoderModel_decodes_101 : decode prog_14_method_26_code 101 = .ok (.iconst 0, 1) := by decide +kernel
theorem d_MessageCoderModel_decodes_102 : decode prog_14_method_26_code 102 = .ok (.istore_n 1, 1) := by decide +kernel
theorem d_MessageCoderModel_decodes_103 : decode prog_14_method_26_code 103 = .ok (.iconst 0, 1) := by decide +kernel
theorem d_MessageCoderModel_decodes_104 : decode prog_14_method_26_code 104 = .ok (.istore_n 2, 1) := by decide +kernel
theorem d_MessageCoderModel_decodes_105 : decode prog_14_method_26_code 105 = .ok (.iinc 3 1, 3) := by decide +kernel
theorem d_MessageCoderModel_decodes_108 : decode prog_14_method_26_code 108 = .ok (.goto (-97), 3) := by decide +kernel
theorem d_MessageCoderModel_decodes_111 : decode prog_14_method_26_code 111 = .ok (.return_, 1) := by decide +kernel
set_option maxHeartbeats 4000000 in
set_option maxRecDepth 20000 in
theorem c_MessageCoderModel_decodes {P : xP} {F : xF} {z : Nat} {m : Nat} {th : Nat} {ch : Nat} {sv : Nat} {rs : Int32} {bm : Nat} {dm : Nat} {lz : Nat} {ty : Nat} {he : Nat} {er : Int32} {ea : Int32} {fa : Int32} {cn : Nat} {g : Nat → Nat} {A : aS} {d0 : Nat → Nat} (o0 : F (m) = some (.inl (10, [.int (nI (th)), .ref (m + 1), .int (nI (ch)), .int (nI (sv)), .int rs, .ref (m + 2), .ref (m + 3), .ref (m + 4), .ref (m + 5), .ref (m + 6), .int (nI (bm)), .ref (m + 7), .int (nI (dm)), .ref (m + 8), .ref (m + 9), .int (nI (lz)), .ref (m + 10), .int (nI (ty)), .int (nI (he)), .int er, .int ea, .int fa, .ref (m + 11), .int (nI (cn))]))) (ga : F (m + 1) = some (.inr (0, 4730, fun b9 => .int (nI (g b9))))) (h7 : F (m + 7) = some (.inr (0, 16, fun b9 => .int (nI (d0 b9))))) (hr : rRow g A) (hA : aInv A) (hfk : 0 < A.2.2.2.1.1) : xM P xy_MessageCoderModel_decodes [.ref m] F (z) 0 0 (fun r9 F9 z9 => ∃ d1 : Nat → Nat, r9 = none ∧ z9 = z ∧ F9 (m) = some (.inl (10, [.int (nI (th)), .ref (m + 1), .int (nI (ch)), .int (nI (sv)), .int rs, .ref (m + 2), .ref (m + 3), .ref (m + 4), .ref (m + 5), .ref (m + 6), .int (nI (bm)), .ref (m + 7), .int (nI ((decA A).2.2.1)), .ref (m + 8), .ref (m + 9), .int (nI (lz)), .ref (m + 10), .int (nI (ty)), .int (nI (he)), .int er, .int ea, .int fa, .ref (m + 11), .int (nI (cn))])) ∧ F9 (m + 1) = some (.inr (0, 4730, fun b9 => .int (nI (g b9)))) ∧ F9 (m + 7) = some (.inr (0, 16, fun b9 => .int (nI (d1 b9)))) ∧ (∀ j, j < (decA A).2.2.1 → d1 j + 97 = (decA A).2.2.2 j) ∧ (∀ a9 : Nat, (a9 < m ∨ m + 1 ≤ a9) → (a9 < m + 7 ∨ m + 7 + 1 ≤ a9) → F9 a9 = F a9)) := by
  refine xM_v rfl (Nat.le_of_ble_eq_true rfl) (L0 := [some (.ref m), none, none, none, none]) rfl rfl fun Θ hC hin hret => ?_
  have hag : ∀ a9 : Nat, (a9 < m ∨ m + 1 ≤ a9) → (a9 < m + 7 ∨ m + 7 + 1 ≤ a9) → F a9 = F a9 := fun a9 _ _ => rfl
  obtain ⟨⟨q0, q1, q2, q3, q4, q5, q6, q7, q9⟩, qw, qd, qm, qf, qx, qb⟩ := id hr
  obtain ⟨⟨u1, u2, u3, u4, u5⟩, uw, ud, um, uo, ut, ux, ub, un9⟩ := id hA
  obtain ⟨qf1, qf2, qf3⟩ := qf hfk
  refine x_aload_n hC d_MessageCoderModel_decodes_0 rfl rfl ?_
  refine x_iconst hC d_MessageCoderModel_decodes_1 (v := nI 0) (by decide) ?_
  refine x_putf hC kf_MessageCoderModel_106 o0 (Nat.le_of_ble_eq_true rfl) rfl rfl d_MessageCoderModel_decodes_2 (fs1 := [.int (nI (th)), .ref (m + 1), .int (nI (ch)), .int (nI (sv)), .int rs, .ref (m + 2), .ref (m + 3), .ref (m + 4), .ref (m + 5), .ref (m + 6), .int (nI (bm)), .ref (m + 7), .int (nI 0), .ref (m + 8), .ref (m + 9), .int (nI (lz)), .ref (m + 10), .int (nI (ty)), .int (nI (he)), .int er, .int ea, .int fa, .ref (m + 11), .int (nI (cn))]) rfl ?_
  generalize e1 : xup F (m) (.inl (10, [.int (nI (th)), .ref (m + 1), .int (nI (ch)), .int (nI (sv)), .int rs, .ref (m + 2), .ref (m + 3), .ref (m + 4), .ref (m + 5), .ref (m + 6), .int (nI (bm)), .ref (m + 7), .int (nI 0), .ref (m + 8), .ref (m + 9), .int (nI (lz)), .ref (m + 10), .int (nI (ty)), .int (nI (he)), .int er, .int ea, .int fa, .ref (m + 11), .int (nI (cn))])) = F1
  have o0 : F1 (m) = some (.inl (10, [.int (nI (th)), .ref (m + 1), .int (nI (ch)), .int (nI (sv)), .int rs, .ref (m + 2), .ref (m + 3), .ref (m + 4), .ref (m + 5), .ref (m + 6), .int (nI (bm)), .ref (m + 7), .int (nI 0), .ref (m + 8), .ref (m + 9), .int (nI (lz)), .ref (m + 10), .int (nI (ty)), .int (nI (he)), .int er, .int ea, .int fa, .ref (m + 11), .int (nI (cn))])) := by rw [← e1]; exact xup_eq
  have ga : F1 (m + 1) = some (.inr (0, 4730, fun b9 => .int (nI (g b9)))) := by rw [← e1]; exact (xup_ne (by omega)).trans ga
  have h7 : F1 (m + 7) = some (.inr (0, 16, fun b9 => .int (nI (d0 b9)))) := by rw [← e1]; exact (xup_ne (by omega)).trans h7
  have hag : ∀ a9 : Nat, (a9 < m ∨ m + 1 ≤ a9) → (a9 < m + 7 ∨ m + 7 + 1 ≤ a9) → F1 a9 = F a9 := fun a9 q0 q1 => by rw [← e1]; exact (xup_ne (by omega)).trans (hag a9 q0 q1)
  refine x_iconst hC d_MessageCoderModel_decodes_5 (v := nI 0) (by decide) ?_
  refine x_istore_n hC d_MessageCoderModel_decodes_6 rfl (Nat.le_of_ble_eq_true rfl) (L1 := [some (.ref m), some (.int (nI 0)), none, none, none]) rfl ?_
  refine x_iconst hC d_MessageCoderModel_decodes_7 (v := nI 0) (by decide) ?_
  refine x_istore_n hC d_MessageCoderModel_decodes_8 rfl (Nat.le_of_ble_eq_true rfl) (L1 := [some (.ref m), some (.int (nI 0)), some (.int (nI 0)), none, none]) rfl ?_
  refine x_iconst hC d_MessageCoderModel_decodes_9 (v := nI 0) (by decide) ?_
  refine x_istore_n hC d_MessageCoderModel_decodes_10 rfl (Nat.le_of_ble_eq_true rfl) (L1 := [some (.ref m), some (.int (nI 0)), some (.int (nI 0)), some (.int (nI 0)), none]) rfl ?_
  have loop_11 : ∀ (m9 : Nat) (Fh11 : xF) (i : Nat) (v : Int32) (l : Nat) (n : Nat) (s : Nat → Nat) (d1 : Nat → Nat), (Fh11 (m) = some (.inl (10, [.int (nI (th)), .ref (m + 1), .int (nI (ch)), .int (nI (sv)), .int rs, .ref (m + 2), .ref (m + 3), .ref (m + 4), .ref (m + 5), .ref (m + 6), .int (nI (bm)), .ref (m + 7), .int (nI (n)), .ref (m + 8), .ref (m + 9), .int (nI (lz)), .ref (m + 10), .int (nI (ty)), .int (nI (he)), .int er, .int ea, .int fa, .ref (m + 11), .int (nI (cn))]))) → (Fh11 (m + 1) = some (.inr (0, 4730, fun b9 => .int (nI (g b9))))) → (Fh11 (m + 7) = some (.inr (0, 16, fun b9 => .int (nI (d1 b9))))) → (∀ a9 : Nat, (a9 < m ∨ m + 1 ≤ a9) → (a9 < m + 7 ∨ m + 7 + 1 ≤ a9) → Fh11 a9 = F a9) → (i ≤ A.2.2.2.1.1 * 4) → (l ≤ i) → (n ≤ A.2.2.2.1.2.2.1) → (decS (hLen A.2.2.2.1.2.2.2.2) (hVal (hLen A.2.2.2.1.2.2.2.2)) A.2.2.2.1.2.1 A.2.2.2.1.2.2.1 i = (v, l, n, s)) → (∀ j, j < n → d1 j + 97 = s j) → (A.2.2.2.1.1 * 4 - i < m9) → xX P Θ 11 [some (.ref m), some (.int v), some (.int (nI (l))), some (.int (nI (i))), none] [] Fh11 (z) 0 0 := by
    intro m9
    induction m9 with
    | zero => intros; omega
    | succ m9 ih_11 =>
      intro Fh11 i v l n s d1 o0 ga h7 hag hi kl hn kv kd hm_11
      refine x_iload_n hC d_MessageCoderModel_decodes_11 rfl rfl ?_
      refine x_aload_n hC d_MessageCoderModel_decodes_12 rfl rfl ?_
      refine x_getf hC kf_MessageCoderModel_9 o0 rfl d_MessageCoderModel_decodes_13 ?_
      refine x_bipush hC d_MessageCoderModel_decodes_16 (v := nI 7) (by decide) ?_
      refine x_iald hC ga (j := 7) ⟨rfl, by omega, by omega⟩ (x := nI (A.2.2.2.1.1 * 7)) (congrArg nI q7) d_MessageCoderModel_decodes_18 ?_
      refine x_bipush hC d_MessageCoderModel_decodes_19 (v := nI 7) (by decide) ?_
      refine x_idiv hC d_MessageCoderModel_decodes_21 (x_ne0 (by omega) (by omega)) (v := (nI (A.2.2.2.1.1))) ((pk_div (by omega) (by omega) (by omega)).trans (congrArg nI (by omega))) ?_
      refine x_iconst hC d_MessageCoderModel_decodes_22 (v := nI 4) (by decide) ?_
      refine x_imul hC d_MessageCoderModel_decodes_23 (v := (nI ((A.2.2.2.1.1) * (4)))) (pk_mul _ _) ?_
      refine x_icmpN_ge hC d_MessageCoderModel_decodes_24 (tgt := 111) (by decide) (by omega) (by omega) (fun c_24 => ?_) (fun c_24 => ?_)
      · skip
        refine hret _ _ _ _ _ _ d_MessageCoderModel_decodes_111 (by decide) (by decide) ?_
        have hfin : decS (hLen A.2.2.2.1.2.2.2.2) (hVal (hLen A.2.2.2.1.2.2.2.2)) A.2.2.2.1.2.1 A.2.2.2.1.2.2.1 (A.2.2.2.1.1 * 4) = (v, l, n, s) := (by rw [← show i = A.2.2.2.1.1 * 4 by omega]; exact kv)
        have hda : decA A = (v, l, n, s) := hfin
        exact ⟨d1, rfl, rfl, by rw [hda]; exact o0, ga, h7, fun j hj => by rw [hda] at hj ⊢; exact kd j hj, hag⟩
      · skip
        refine x_aload_n hC d_MessageCoderModel_decodes_27 rfl rfl ?_
        refine x_getf hC kf_MessageCoderModel_106 o0 rfl d_MessageCoderModel_decodes_28 ?_
        refine x_aload_n hC d_MessageCoderModel_decodes_31 rfl rfl ?_
        refine x_getf hC kf_MessageCoderModel_9 o0 rfl d_MessageCoderModel_decodes_32 ?_
        refine x_bipush hC d_MessageCoderModel_decodes_35 (v := nI 8) (by decide) ?_
        refine x_iald hC ga (j := 8) ⟨rfl, by omega, by omega⟩ (x := nI (A.2.2.2.1.2.2.1)) (congrArg nI qf1) d_MessageCoderModel_decodes_37 ?_
        refine x_icmpN_ge hC d_MessageCoderModel_decodes_38 (tgt := 111) (by decide) (by omega) (by omega) (fun c_38 => ?_) (fun c_38 => ?_)
        · skip
          refine hret _ _ _ _ _ _ d_MessageCoderModel_decodes_111 (by decide) (by decide) ?_
          have hfin : decS (hLen A.2.2.2.1.2.2.2.2) (hVal (hLen A.2.2.2.1.2.2.2.2)) A.2.2.2.1.2.1 A.2.2.2.1.2.2.1 (A.2.2.2.1.1 * 4) = (v, l, n, s) := (by have h1 := decS_stop (ln := hLen A.2.2.2.1.2.2.2.2) (vl := hVal (hLen A.2.2.2.1.2.2.2.2)) (b := A.2.2.2.1.2.1) (tn := A.2.2.2.1.2.2.1) (i := i) (by rw [kv]; exact c_38) (A.2.2.2.1.1 * 4 - i); rw [show i + (A.2.2.2.1.1 * 4 - i) = A.2.2.2.1.1 * 4 by omega] at h1; exact h1.trans kv)
          have hda : decA A = (v, l, n, s) := hfin
          exact ⟨d1, rfl, rfl, by rw [hda]; exact o0, ga, h7, fun j hj => by rw [hda] at hj ⊢; exact kd j hj, hag⟩
        · skip
          have hx16 := dat_lt _ (cor_lt _ (ub (i / 4) (by omega)))
          have hl9 : l ≤ i := kl
          refine x_iconst hC d_MessageCoderModel_decodes_41 (v := nI 2) (by decide) ?_
          refine x_iload_n hC d_MessageCoderModel_decodes_42 rfl rfl ?_
          refine x_imul hC d_MessageCoderModel_decodes_43 (v := (nI 2 * v)) rfl ?_
          refine x_aload_n hC d_MessageCoderModel_decodes_44 rfl rfl ?_
          refine x_iload_n hC d_MessageCoderModel_decodes_45 rfl rfl ?_
          refine x_iconst hC d_MessageCoderModel_decodes_46 (v := nI 4) (by decide) ?_
          refine x_idiv hC d_MessageCoderModel_decodes_47 (x_ne0 (by omega) (by omega)) (v := (nI ((i) / (4)))) (pk_div (by omega) (by omega) (by omega)) ?_
          refine x_callV hC kv_MessageCoderModel_109 (c_MessageCoderModel_numberOf (o0 := o0) (ga := ga) (hr := hr) (hA := hA) (hb := by omega)) o0 rfl rfl (by decide) rfl rfl rfl (Nat.le_of_ble_eq_true rfl) (by decide) d_MessageCoderModel_decodes_48 (fun r9 F9 z9 hp9 => ?_)
          obtain ⟨rfl, h9b, h9c⟩ := hp9
          rw [h9b, h9c]
          clear h9b h9c F9 z9
          refine x_iconst hC d_MessageCoderModel_decodes_51 (v := nI 3) (by decide) ?_
          refine x_iload_n hC d_MessageCoderModel_decodes_52 rfl rfl ?_
          refine x_iconst hC d_MessageCoderModel_decodes_53 (v := nI 4) (by decide) ?_
          refine x_irem hC d_MessageCoderModel_decodes_54 (x_ne0 (by omega) (by omega)) (v := (nI ((i) % (4)))) (pk_rem (by omega) (by omega) (by omega)) ?_
          refine x_isub hC d_MessageCoderModel_decodes_55 (v := (nI ((3) - ((i) % (4))))) (pk_sub (by omega)) ?_
          refine x_ishr hC d_MessageCoderModel_decodes_56 (v := (nI (datN (corN (A.2.2.2.1.2.1 (i / 4))) / 2 ^ (3 - i % 4)))) (x_shrN _ (by omega) (by omega) rfl) ?_
          refine x_iconst hC d_MessageCoderModel_decodes_57 (v := nI 1) (by decide) ?_
          refine x_iand hC d_MessageCoderModel_decodes_58 (v := (nI (datB A.2.2.2.1.2.1 i))) (x_and1 (Nat.lt_of_le_of_lt (Nat.div_le_self _ _) (by omega))) ?_
          refine x_iadd hC d_MessageCoderModel_decodes_59 (v := (decV v (datB A.2.2.2.1.2.1 i))) (dec_eq v (Nat.mod_lt _ (by decide))) ?_
          refine x_istore_n hC d_MessageCoderModel_decodes_60 rfl (Nat.le_of_ble_eq_true rfl) (L1 := [some (.ref m), some (.int (decV v (datB A.2.2.2.1.2.1 i))), some (.int (nI (l))), some (.int (nI (i))), none]) rfl ?_
          refine x_iinc hC d_MessageCoderModel_decodes_61 rfl (v := (nI (l + 1))) (x_incN 1) (Nat.le_of_ble_eq_true rfl) (L1 := [some (.ref m), some (.int (decV v (datB A.2.2.2.1.2.1 i))), some (.int (nI (l + 1))), some (.int (nI (i))), none]) rfl ?_
          refine x_aload_n hC d_MessageCoderModel_decodes_64 rfl rfl ?_
          refine x_iload_n hC d_MessageCoderModel_decodes_65 rfl rfl ?_
          refine x_iload_n hC d_MessageCoderModel_decodes_66 rfl rfl ?_
          refine x_callV hC kv_MessageCoderModel_112 (c_MessageCoderModel_symbolOf (o0 := o0) (ga := ga) (hr := hr) (hA := hA) (hfk := hfk) (hl := by omega)) o0 rfl rfl (by decide) rfl rfl rfl (Nat.le_of_ble_eq_true rfl) (by decide) d_MessageCoderModel_decodes_67 (fun r9 F9 z9 hp9 => ?_)
          obtain ⟨rfl, h9b, h9c⟩ := hp9
          rw [h9b, h9c]
          clear h9b h9c F9 z9
          refine x_istore hC d_MessageCoderModel_decodes_70 (Nat.le_of_ble_eq_true rfl) (L1 := [some (.ref m), some (.int (decV v (datB A.2.2.2.1.2.1 i))), some (.int (nI (l + 1))), some (.int (nI (i))), some (.int (xo (symI (hLen A.2.2.2.1.2.2.2.2) (hVal (hLen A.2.2.2.1.2.2.2.2)) (decV v (datB A.2.2.2.1.2.1 i)) (l + 1) 8)))]) rfl ?_
          refine x_iload hC d_MessageCoderModel_decodes_72 rfl ?_
          refine x_if_ge hC d_MessageCoderModel_decodes_74 (tgt := 80) (by decide) (fun c_74 => ?_) (fun c_74 => ?_)
          · skip
            have hx8 : symI (hLen A.2.2.2.1.2.2.2.2) (hVal (hLen A.2.2.2.1.2.2.2.2)) (decV v (datB A.2.2.2.1.2.1 i)) (l + 1) 8 < 8 := by have h1 := symI_le (hLen A.2.2.2.1.2.2.2.2) (hVal (hLen A.2.2.2.1.2.2.2.2)) (decV v (datB A.2.2.2.1.2.1 i)) (l + 1) 8 (by omega); exact Nat.lt_of_le_of_ne h1 (fun h9 => k2_nlt c_74 ((xo_lt h1).mpr h9))
            refine x_aload_n hC d_MessageCoderModel_decodes_80 rfl rfl ?_
            refine x_getf hC kf_MessageCoderModel_28 o0 rfl d_MessageCoderModel_decodes_81 ?_
            refine x_aload_n hC d_MessageCoderModel_decodes_84 rfl rfl ?_
            refine x_getf hC kf_MessageCoderModel_106 o0 rfl d_MessageCoderModel_decodes_85 ?_
            refine x_iload hC d_MessageCoderModel_decodes_88 rfl ?_
            refine x_top (v := (nI (symI (hLen A.2.2.2.1.2.2.2.2) (hVal (hLen A.2.2.2.1.2.2.2.2)) (decV v (datB A.2.2.2.1.2.1 i)) (l + 1) 8))) (xo_of hx8) ?_
            refine x_iast hC h7 (j := n) ⟨rfl, by omega, by omega⟩ d_MessageCoderModel_decodes_90 (g1 := fun b9 => nI (updN d1 (n) (symI (hLen A.2.2.2.1.2.2.2.2) (hVal (hLen A.2.2.2.1.2.2.2.2)) (decV v (datB A.2.2.2.1.2.1 i)) (l + 1) 8) b9)) (x_updN _ _ _) ?_
            generalize eqd9 : updN d1 (n) (symI (hLen A.2.2.2.1.2.2.2.2) (hVal (hLen A.2.2.2.1.2.2.2.2)) (decV v (datB A.2.2.2.1.2.1 i)) (l + 1) 8) = qd9
            generalize e3 : xup Fh11 (m + 7) (.inr (0, 16, fun b9 => .int (nI (qd9 b9)))) = F3
            have o0 : F3 (m) = some (.inl (10, [.int (nI (th)), .ref (m + 1), .int (nI (ch)), .int (nI (sv)), .int rs, .ref (m + 2), .ref (m + 3), .ref (m + 4), .ref (m + 5), .ref (m + 6), .int (nI (bm)), .ref (m + 7), .int (nI (n)), .ref (m + 8), .ref (m + 9), .int (nI (lz)), .ref (m + 10), .int (nI (ty)), .int (nI (he)), .int er, .int ea, .int fa, .ref (m + 11), .int (nI (cn))])) := by rw [← e3]; exact (xup_ne (by omega)).trans o0
            have ga : F3 (m + 1) = some (.inr (0, 4730, fun b9 => .int (nI (g b9)))) := by rw [← e3]; exact (xup_ne (by omega)).trans ga
            have h7 : F3 (m + 7) = some (.inr (0, 16, fun b9 => .int (nI (qd9 b9)))) := by rw [← e3]; exact xup_eq
            have hag : ∀ a9 : Nat, (a9 < m ∨ m + 1 ≤ a9) → (a9 < m + 7 ∨ m + 7 + 1 ≤ a9) → F3 a9 = F a9 := fun a9 q0 q1 => by rw [← e3]; exact (xup_ne (by omega)).trans (hag a9 q0 q1)
            refine x_aload_n hC d_MessageCoderModel_decodes_91 rfl rfl ?_
            refine x_dup hC d_MessageCoderModel_decodes_92 rfl ?_
            refine x_getf hC kf_MessageCoderModel_106 o0 rfl d_MessageCoderModel_decodes_93 ?_
            refine x_iconst hC d_MessageCoderModel_decodes_96 (v := nI 1) (by decide) ?_
            refine x_iadd hC d_MessageCoderModel_decodes_97 (v := (nI (n + 1))) (x_addN (by omega)) ?_
            refine x_putf hC kf_MessageCoderModel_106 o0 (Nat.le_of_ble_eq_true rfl) rfl rfl d_MessageCoderModel_decodes_98 (fs1 := [.int (nI (th)), .ref (m + 1), .int (nI (ch)), .int (nI (sv)), .int rs, .ref (m + 2), .ref (m + 3), .ref (m + 4), .ref (m + 5), .ref (m + 6), .int (nI (bm)), .ref (m + 7), .int (nI (n + 1)), .ref (m + 8), .ref (m + 9), .int (nI (lz)), .ref (m + 10), .int (nI (ty)), .int (nI (he)), .int er, .int ea, .int fa, .ref (m + 11), .int (nI (cn))]) rfl ?_
            generalize e4 : xup F3 (m) (.inl (10, [.int (nI (th)), .ref (m + 1), .int (nI (ch)), .int (nI (sv)), .int rs, .ref (m + 2), .ref (m + 3), .ref (m + 4), .ref (m + 5), .ref (m + 6), .int (nI (bm)), .ref (m + 7), .int (nI (n + 1)), .ref (m + 8), .ref (m + 9), .int (nI (lz)), .ref (m + 10), .int (nI (ty)), .int (nI (he)), .int er, .int ea, .int fa, .ref (m + 11), .int (nI (cn))])) = F4
            have o0 : F4 (m) = some (.inl (10, [.int (nI (th)), .ref (m + 1), .int (nI (ch)), .int (nI (sv)), .int rs, .ref (m + 2), .ref (m + 3), .ref (m + 4), .ref (m + 5), .ref (m + 6), .int (nI (bm)), .ref (m + 7), .int (nI (n + 1)), .ref (m + 8), .ref (m + 9), .int (nI (lz)), .ref (m + 10), .int (nI (ty)), .int (nI (he)), .int er, .int ea, .int fa, .ref (m + 11), .int (nI (cn))])) := by rw [← e4]; exact xup_eq
            have ga : F4 (m + 1) = some (.inr (0, 4730, fun b9 => .int (nI (g b9)))) := by rw [← e4]; exact (xup_ne (by omega)).trans ga
            have h7 : F4 (m + 7) = some (.inr (0, 16, fun b9 => .int (nI (qd9 b9)))) := by rw [← e4]; exact (xup_ne (by omega)).trans h7
            have hag : ∀ a9 : Nat, (a9 < m ∨ m + 1 ≤ a9) → (a9 < m + 7 ∨ m + 7 + 1 ≤ a9) → F4 a9 = F a9 := fun a9 q0 q1 => by rw [← e4]; exact (xup_ne (by omega)).trans (hag a9 q0 q1)
            refine x_iconst hC d_MessageCoderModel_decodes_101 (v := nI 0) (by decide) ?_
            refine x_istore_n hC d_MessageCoderModel_decodes_102 rfl (Nat.le_of_ble_eq_true rfl) (L1 := [some (.ref m), some (.int (nI 0)), some (.int (nI (l + 1))), some (.int (nI (i))), some (.int (xo (symI (hLen A.2.2.2.1.2.2.2.2) (hVal (hLen A.2.2.2.1.2.2.2.2)) (decV v (datB A.2.2.2.1.2.1 i)) (l + 1) 8)))]) rfl ?_
            refine x_iconst hC d_MessageCoderModel_decodes_103 (v := nI 0) (by decide) ?_
            refine x_istore_n hC d_MessageCoderModel_decodes_104 rfl (Nat.le_of_ble_eq_true rfl) (L1 := [some (.ref m), some (.int (nI 0)), some (.int (nI 0)), some (.int (nI (i))), some (.int (xo (symI (hLen A.2.2.2.1.2.2.2.2) (hVal (hLen A.2.2.2.1.2.2.2.2)) (decV v (datB A.2.2.2.1.2.1 i)) (l + 1) 8)))]) rfl ?_
            refine x_iinc hC d_MessageCoderModel_decodes_105 rfl (v := (nI (i + 1))) (x_incN 1) (Nat.le_of_ble_eq_true rfl) (L1 := [some (.ref m), some (.int (nI 0)), some (.int (nI 0)), some (.int (nI (i + 1))), some (.int (xo (symI (hLen A.2.2.2.1.2.2.2.2) (hVal (hLen A.2.2.2.1.2.2.2.2)) (decV v (datB A.2.2.2.1.2.1 i)) (l + 1) 8)))]) rfl ?_
            refine x_goto hC d_MessageCoderModel_decodes_108 (tgt := 11) (by decide) ?_
            refine x_forget (L1 := [some (.ref m), some (.int (nI 0)), some (.int (nI 0)), some (.int (nI (i + 1))), none]) ⟨Or.inr rfl, ⟨Or.inr rfl, ⟨Or.inr rfl, ⟨Or.inr rfl, ⟨Or.inl rfl, trivial⟩⟩⟩⟩⟩ ?_
            exact ih_11 F4 (i + 1) (0) (0) (n + 1) ((updN s n (97 + symI (hLen A.2.2.2.1.2.2.2.2) (hVal (hLen A.2.2.2.1.2.2.2.2)) (decV v (datB A.2.2.2.1.2.1 i)) (l + 1) 8))) (qd9) o0 ga h7 hag (by omega) (by omega) (by omega) (by first | exact decS_hit kv (by omega) hx8 | exact decS_no kv (by omega) hx8) (by first | exact kd | (exact fun j hj => by rw [← eqd9]; by_cases e9 : j = n; (rw [e9, updN_eq, updN_eq]; omega); (rw [updN_ne e9, updN_ne e9]; exact kd j (by omega)))) (by omega)
          · skip
            have hx8 : ¬ symI (hLen A.2.2.2.1.2.2.2.2) (hVal (hLen A.2.2.2.1.2.2.2.2)) (decV v (datB A.2.2.2.1.2.1 i)) (l + 1) 8 < 8 := fun h9 => c_74 (by rw [xo_of h9]; exact nI_pos' (by omega))
            refine x_goto hC d_MessageCoderModel_decodes_77 (tgt := 105) (by decide) ?_
            refine x_iinc hC d_MessageCoderModel_decodes_105 rfl (v := (nI (i + 1))) (x_incN 1) (Nat.le_of_ble_eq_true rfl) (L1 := [some (.ref m), some (.int (decV v (datB A.2.2.2.1.2.1 i))), some (.int (nI (l + 1))), some (.int (nI (i + 1))), some (.int (xo (symI (hLen A.2.2.2.1.2.2.2.2) (hVal (hLen A.2.2.2.1.2.2.2.2)) (decV v (datB A.2.2.2.1.2.1 i)) (l + 1) 8)))]) rfl ?_
            refine x_goto hC d_MessageCoderModel_decodes_108 (tgt := 11) (by decide) ?_
            refine x_forget (L1 := [some (.ref m), some (.int (decV v (datB A.2.2.2.1.2.1 i))), some (.int (nI (l + 1))), some (.int (nI (i + 1))), none]) ⟨Or.inr rfl, ⟨Or.inr rfl, ⟨Or.inr rfl, ⟨Or.inr rfl, ⟨Or.inl rfl, trivial⟩⟩⟩⟩⟩ ?_
            exact ih_11 Fh11 (i + 1) (decV v (datB A.2.2.2.1.2.1 i)) (l + 1) (n) (s) (d1) o0 ga h7 hag (by omega) (by omega) (by omega) (by first | exact decS_hit kv (by omega) hx8 | exact decS_no kv (by omega) hx8) (by first | exact kd | (exact fun j hj => by rw [← eqd9]; by_cases e9 : j = n; (rw [e9, updN_eq, updN_eq]; omega); (rw [updN_ne e9, updN_ne e9]; exact kd j (by omega)))) (by omega)
  exact loop_11 (A.2.2.2.1.1 * 4 - 0 + 1) F1 (0) (0) (0) (0) ((fun _ => 0)) (d0) o0 ga h7 hag (by omega) (by omega) (by omega) (rfl) (fun j hj => absurd hj (Nat.not_lt_zero j)) (by omega)

theorem d_MessageCoderModel_isSame_0 : decode prog_14_method_28_code 0 = .ok (.aload_n 0, 1) := by decide +kernel
theorem d_MessageCoderModel_isSame_1 : decode prog_14_method_28_code 1 = .ok (.invokevirtual 115, 3) := by decide +kernel
theorem d_MessageCoderModel_isSame_4 : decode prog_14_method_28_code 4 = .ok (.aload_n 0, 1) := by decide +kernel
theorem d_MessageCoderModel_isSame_5 : decode prog_14_method_28_code 5 = .ok (.getfield 106, 3) := by decide +kernel
theorem d_MessageCoderModel_isSame_8 : decode prog_14_method_28_code 8 = .ok (.aload_n 0, 1) := by decide +kernel
theorem d_MessageCoderModel_isSame_9 : decode prog_14_method_28_code 9 = .ok (.getfield 9, 3) := by decide +kernel
theorem d_MessageCoderModel_isSame_12 : decode prog_14_method_28_code 12 = .ok (.bipush 8, 2) := by decide +kernel
theorem d_MessageCoderModel_isSame_14 : decode prog_14_method_28_code 14 = .ok (.iaload, 1) := by decide +kernel
theorem d_MessageCoderModel_isSame_15 : decode prog_14_method_28_code 15 = .ok (.if_icmp .ne 7, 3) := by decide +kernel
theorem d_MessageCoderModel_isSame_18 : decode prog_14_method_28_code 18 = .ok (.iconst 1, 1) := by decide +kernel
theorem d_MessageCoderModel_isSame_19 : decode prog_14_method_28_code 19 = .ok (.goto 4, 3) := by decide +kernel
theorem d_MessageCoderModel_isSame_22 : decode prog_14_method_28_code 22 = .ok (.iconst 0, 1) := by decide +kernel
theorem d_MessageCoderModel_isSame_23 : decode prog_14_method_28_code 23 = .ok (.istore_n 1, 1) := by decide +kernel
theorem d_MessageCoderModel_isSame_24 : decode prog_14_method_28_code 24 = .ok (.iconst 0, 1) := by decide +kernel
theorem d_MessageCoderModel_isSame_25 : decode prog_14_method_28_code 25 = .ok (.istore_n 2, 1) := by decide +kernel
theorem d_MessageCoderModel_isSame_26 : decode prog_14_method_28_code 26 = .ok (.iload_n 2, 1) := by decide +kernel
theorem d_MessageCoderModel_isSame_27 : decode prog_14_method_28_code 27 = .ok (.aload_n 0, 1) := by decide +kernel
theorem d_MessageCoderModel_isSame_28 : decode prog_14_method_28_code 28 = .ok (.getfield 106, 3) := by decide +kernel
theorem d_MessageCoderModel_isSame_31 : decode prog_14_method_28_code 31 = .ok (.if_icmp .ge 36, 3) := by decide +kernel
theorem d_MessageCoderModel_isSame_34 : decode prog_14_method_28_code 34 = .ok (.iload_n 1, 1) := by decide +kernel
theorem d_MessageCoderModel_isSame_35 : decode prog_14_method_28_code 35 = .ok (.aload_n 0, 1) := by decide +kernel
theorem d_MessageCoderModel_isSame_36 : decode prog_14_method_28_code 36 = .ok (.getfield 28, 3) := by decide +kernel
theorem d_MessageCoderModel_isSame_39 : decode prog_14_method_28_code 39 = .ok (.iload_n 2, 1) := by decide +kernel
theorem d_MessageCoderModel_isSame_40 : decode prog_14_method_28_code 40 = .ok (.iaload, 1) := by decide +kernel
theorem d_MessageCoderModel_isSame_41 : decode prog_14_method_28_code 41 = .ok (.aload_n 0, 1) := by decide +kernel
theorem d_MessageCoderModel_isSame_42 : decode prog_14_method_28_code 42 = .ok (.getfield 9, 3) := by decide +kernel
theorem d_MessageCoderModel_isSame_45 : decode prog_14_method_28_code 45 = .ok (.sipush 202, 3) := by decide +kernel
theorem d_MessageCoderModel_isSame_48 : decode prog_14_method_28_code 48 = .ok (.iload_n 2, 1) := by decide +kernel
theorem d_MessageCoderModel_isSame_49 : decode prog_14_method_28_code 49 = .ok (.iadd, 1) := by decide +kernel
theorem d_MessageCoderModel_isSame_50 : decode prog_14_method_28_code 50 = .ok (.iaload, 1) := by decide +kernel
theorem d_MessageCoderModel_isSame_51 : decode prog_14_method_28_code 51 = .ok (.if_icmp .ne 7, 3) := by decide +kernel
theorem d_MessageCoderModel_isSame_54 : decode prog_14_method_28_code 54 = .ok (.iconst 1, 1) := by decide +kernel
theorem d_MessageCoderModel_isSame_55 : decode prog_14_method_28_code 55 = .ok (.goto 4, 3) := by decide +kernel
theorem d_MessageCoderModel_isSame_58 : decode prog_14_method_28_code 58 = .ok (.iconst 0, 1) := by decide +kernel
theorem d_MessageCoderModel_isSame_59 : decode prog_14_method_28_code 59 = .ok (.iand, 1) := by decide +kernel
theorem d_MessageCoderModel_isSame_60 : decode prog_14_method_28_code 60 = .ok (.istore_n 1, 1) := by decide +kernel
theorem d_MessageCoderModel_isSame_61 : decode prog_14_method_28_code 61 = .ok (.iinc 2 1, 3) := by decide +kernel
theorem d_MessageCoderModel_isSame_64 : decode prog_14_method_28_code 64 = .ok (.goto (-38), 3) := by decide +kernel
theorem d_MessageCoderModel_isSame_67 : decode prog_14_method_28_code 67 = .ok (.iload_n 1, 1) := by decide +kernel
theorem d_MessageCoderModel_isSame_68 : decode prog_14_method_28_code 68 = .ok (.ireturn, 1) := by decide +kernel
set_option maxHeartbeats 4000000 in
set_option maxRecDepth 20000 in
theorem c_MessageCoderModel_isSame {P : xP} {F : xF} {z : Nat} {m : Nat} {th : Nat} {ch : Nat} {sv : Nat} {rs : Int32} {bm : Nat} {dm : Nat} {lz : Nat} {ty : Nat} {he : Nat} {er : Int32} {ea : Int32} {fa : Int32} {cn : Nat} {g : Nat → Nat} {A : aS} {d0 : Nat → Nat} (o0 : F (m) = some (.inl (10, [.int (nI (th)), .ref (m + 1), .int (nI (ch)), .int (nI (sv)), .int rs, .ref (m + 2), .ref (m + 3), .ref (m + 4), .ref (m + 5), .ref (m + 6), .int (nI (bm)), .ref (m + 7), .int (nI (dm)), .ref (m + 8), .ref (m + 9), .int (nI (lz)), .ref (m + 10), .int (nI (ty)), .int (nI (he)), .int er, .int ea, .int fa, .ref (m + 11), .int (nI (cn))]))) (ga : F (m + 1) = some (.inr (0, 4730, fun b9 => .int (nI (g b9))))) (h7 : F (m + 7) = some (.inr (0, 16, fun b9 => .int (nI (d0 b9))))) (hr : rRow g A) (hA : aInv A) (hfk : 0 < A.2.2.2.1.1) : xM P xy_MessageCoderModel_isSame [.ref m] F (z) 0 0 (fun r9 F9 z9 => ∃ d1 : Nat → Nat, r9 = some (.int (xb (sameA A))) ∧ z9 = z ∧ F9 (m) = some (.inl (10, [.int (nI (th)), .ref (m + 1), .int (nI (ch)), .int (nI (sv)), .int rs, .ref (m + 2), .ref (m + 3), .ref (m + 4), .ref (m + 5), .ref (m + 6), .int (nI (bm)), .ref (m + 7), .int (nI ((decA A).2.2.1)), .ref (m + 8), .ref (m + 9), .int (nI (lz)), .ref (m + 10), .int (nI (ty)), .int (nI (he)), .int er, .int ea, .int fa, .ref (m + 11), .int (nI (cn))])) ∧ F9 (m + 1) = some (.inr (0, 4730, fun b9 => .int (nI (g b9)))) ∧ F9 (m + 7) = some (.inr (0, 16, fun b9 => .int (nI (d1 b9)))) ∧ (∀ j, j < (decA A).2.2.1 → d1 j + 97 = (decA A).2.2.2 j) ∧ (∀ a9 : Nat, (a9 < m ∨ m + 1 ≤ a9) → (a9 < m + 7 ∨ m + 7 + 1 ≤ a9) → F9 a9 = F a9)) := by
  refine xM_i .boolean rfl (Nat.le_of_ble_eq_true rfl) (L0 := [some (.ref m), none, none]) rfl rfl fun Θ hC hret => ?_
  have hag : ∀ a9 : Nat, (a9 < m ∨ m + 1 ≤ a9) → (a9 < m + 7 ∨ m + 7 + 1 ≤ a9) → F a9 = F a9 := fun a9 _ _ => rfl
  obtain ⟨⟨q0, q1, q2, q3, q4, q5, q6, q7, q9⟩, qw, qd, qm, qf, qx, qb⟩ := id hr
  obtain ⟨⟨u1, u2, u3, u4, u5⟩, uw, ud, um, uo, ut, ux, ub, un9⟩ := id hA
  obtain ⟨qf1, qf2, qf3⟩ := qf hfk
  have hdn : (decA A).2.2.1 ≤ A.2.2.2.1.2.2.1 := decS_le _ _ _ _ _
  refine x_aload_n hC d_MessageCoderModel_isSame_0 rfl rfl ?_
  refine x_callV hC kv_MessageCoderModel_115 (c_MessageCoderModel_decodes (o0 := o0) (ga := ga) (h7 := h7) (hr := hr) (hA := hA) (hfk := hfk)) o0 rfl rfl (by decide) rfl rfl rfl (Nat.le_of_ble_eq_true rfl) (by decide) d_MessageCoderModel_isSame_1 (fun r9 F9 z9 hp9 => ?_)
  obtain ⟨d1_1, rfl, h9c, j0, j1, j2, pk_1, hag9⟩ := hp9
  rw [h9c]
  clear h9c z9
  generalize F9 = F1 at *
  have o0 : F1 (m) = some (.inl (10, [.int (nI (th)), .ref (m + 1), .int (nI (ch)), .int (nI (sv)), .int rs, .ref (m + 2), .ref (m + 3), .ref (m + 4), .ref (m + 5), .ref (m + 6), .int (nI (bm)), .ref (m + 7), .int (nI ((decA A).2.2.1)), .ref (m + 8), .ref (m + 9), .int (nI (lz)), .ref (m + 10), .int (nI (ty)), .int (nI (he)), .int er, .int ea, .int fa, .ref (m + 11), .int (nI (cn))])) := j0
  have ga : F1 (m + 1) = some (.inr (0, 4730, fun b9 => .int (nI (g b9)))) := j1
  have h7 : F1 (m + 7) = some (.inr (0, 16, fun b9 => .int (nI (d1_1 b9)))) := j2
  have hag : ∀ a9 : Nat, (a9 < m ∨ m + 1 ≤ a9) → (a9 < m + 7 ∨ m + 7 + 1 ≤ a9) → F1 a9 = F a9 := fun a9 q0 q1 => (hag9 a9 (by omega) (by omega)).trans (hag a9 q0 q1)
  have hg_1 := hag9
  clear hag9
  refine x_aload_n hC d_MessageCoderModel_isSame_4 rfl rfl ?_
  refine x_getf hC kf_MessageCoderModel_106 o0 rfl d_MessageCoderModel_isSame_5 ?_
  refine x_aload_n hC d_MessageCoderModel_isSame_8 rfl rfl ?_
  refine x_getf hC kf_MessageCoderModel_9 o0 rfl d_MessageCoderModel_isSame_9 ?_
  refine x_bipush hC d_MessageCoderModel_isSame_12 (v := nI 8) (by decide) ?_
  refine x_iald hC ga (j := 8) ⟨rfl, by omega, by omega⟩ (x := nI (A.2.2.2.1.2.2.1)) (congrArg nI qf1) d_MessageCoderModel_isSame_14 ?_
  refine x_icmpN_ne hC d_MessageCoderModel_isSame_15 (tgt := 22) (by decide) (by omega) (by omega) (fun c_15 => ?_) (fun c_15 => ?_)
  · skip
    refine x_iconst hC d_MessageCoderModel_isSame_22 (v := nI 0) (by decide) ?_
    refine x_top (v := (xb ((decA A).2.2.1 = A.2.2.2.1.2.2.1 ∧ eqTo (decA A).2.2.2 A.2.2.2.1.2.2.2.1 0 = true))) (xb_f0 (fun h9 => c_15 h9.1)) ?_
    refine x_istore_n hC d_MessageCoderModel_isSame_23 rfl (Nat.le_of_ble_eq_true rfl) (L1 := [some (.ref m), some (.int (xb ((decA A).2.2.1 = A.2.2.2.1.2.2.1 ∧ eqTo (decA A).2.2.2 A.2.2.2.1.2.2.2.1 0 = true))), none]) rfl ?_
    refine x_iconst hC d_MessageCoderModel_isSame_24 (v := nI 0) (by decide) ?_
    refine x_istore_n hC d_MessageCoderModel_isSame_25 rfl (Nat.le_of_ble_eq_true rfl) (L1 := [some (.ref m), some (.int (xb ((decA A).2.2.1 = A.2.2.2.1.2.2.1 ∧ eqTo (decA A).2.2.2 A.2.2.2.1.2.2.2.1 0 = true))), some (.int (nI 0))]) rfl ?_
    have loop_26 : ∀ (m9 : Nat) (Fh26 : xF) (i : Nat), (Fh26 (m) = some (.inl (10, [.int (nI (th)), .ref (m + 1), .int (nI (ch)), .int (nI (sv)), .int rs, .ref (m + 2), .ref (m + 3), .ref (m + 4), .ref (m + 5), .ref (m + 6), .int (nI (bm)), .ref (m + 7), .int (nI ((decA A).2.2.1)), .ref (m + 8), .ref (m + 9), .int (nI (lz)), .ref (m + 10), .int (nI (ty)), .int (nI (he)), .int er, .int ea, .int fa, .ref (m + 11), .int (nI (cn))]))) → (Fh26 (m + 1) = some (.inr (0, 4730, fun b9 => .int (nI (g b9))))) → (Fh26 (m + 7) = some (.inr (0, 16, fun b9 => .int (nI (d1_1 b9))))) → (∀ a9 : Nat, (a9 < m ∨ m + 1 ≤ a9) → (a9 < m + 7 ∨ m + 7 + 1 ≤ a9) → Fh26 a9 = F a9) → (i ≤ (decA A).2.2.1) → ((decA A).2.2.1 - i < m9) → xX P Θ 26 [some (.ref m), some (.int (xb ((decA A).2.2.1 = A.2.2.2.1.2.2.1 ∧ eqTo (decA A).2.2.2 A.2.2.2.1.2.2.2.1 i = true))), some (.int (nI (i)))] [] Fh26 (z) 0 0 := by
      intro m9
      induction m9 with
      | zero => intros; omega
      | succ m9 ih_26 =>
        intro Fh26 i o0 ga h7 hag hi hm_26
        refine x_iload_n hC d_MessageCoderModel_isSame_26 rfl rfl ?_
        refine x_aload_n hC d_MessageCoderModel_isSame_27 rfl rfl ?_
        refine x_getf hC kf_MessageCoderModel_106 o0 rfl d_MessageCoderModel_isSame_28 ?_
        refine x_icmpN_ge hC d_MessageCoderModel_isSame_31 (tgt := 67) (by decide) (by omega) (by omega) (fun c_31 => ?_) (fun c_31 => ?_)
        · skip
          refine x_iload_n hC d_MessageCoderModel_isSame_67 rfl rfl ?_
          exact hret _ _ _ _ _ _ _ d_MessageCoderModel_isSame_68 (by decide) (by decide) xb_nar (⟨d1_1, by rw [show i = (decA A).2.2.1 by omega], rfl, o0, ga, h7, pk_1, hag⟩)
        · skip
          have e1 := pk_1 i (by omega)
          have e2 := qf3 i (by omega)
          obtain ⟨e3, e4⟩ : 97 ≤ (decA A).2.2.2 i ∧ (decA A).2.2.2 i < 105 := decS_sy _ _ _ _ _ i (by show i < (decA A).2.2.1; omega)
          obtain ⟨e5, e6⟩ : 97 ≤ A.2.2.2.1.2.2.2.1 i ∧ A.2.2.2.1.2.2.2.1 i < 105 := ut i (by omega)
          refine x_iload_n hC d_MessageCoderModel_isSame_34 rfl rfl ?_
          refine x_aload_n hC d_MessageCoderModel_isSame_35 rfl rfl ?_
          refine x_getf hC kf_MessageCoderModel_28 o0 rfl d_MessageCoderModel_isSame_36 ?_
          refine x_iload_n hC d_MessageCoderModel_isSame_39 rfl rfl ?_
          refine x_iald hC h7 (j := i) ⟨rfl, by omega, by omega⟩ (x := nI (d1_1 (i))) rfl d_MessageCoderModel_isSame_40 ?_
          refine x_aload_n hC d_MessageCoderModel_isSame_41 rfl rfl ?_
          refine x_getf hC kf_MessageCoderModel_9 o0 rfl d_MessageCoderModel_isSame_42 ?_
          refine x_sipush hC d_MessageCoderModel_isSame_45 (v := nI 202) (by decide) ?_
          refine x_iload_n hC d_MessageCoderModel_isSame_48 rfl rfl ?_
          refine x_iadd hC d_MessageCoderModel_isSame_49 (v := (nI (202 + i))) (x_addN (by omega)) ?_
          refine x_iald hC ga (j := 202 + i) ⟨rfl, by omega, by omega⟩ (x := nI (g (202 + i))) rfl d_MessageCoderModel_isSame_50 ?_
          refine x_icmpN_ne hC d_MessageCoderModel_isSame_51 (tgt := 58) (by decide) (by omega) (by omega) (fun c_51 => ?_) (fun c_51 => ?_)
          · skip
            refine x_iconst hC d_MessageCoderModel_isSame_58 (v := nI 0) (by decide) ?_
            refine x_top (v := (xb ((decA A).2.2.2 i = A.2.2.2.1.2.2.2.1 i))) (xb_f0 (fun h9 => c_51 (by omega))) ?_
            refine x_iand hC d_MessageCoderModel_isSame_59 (v := (xb ((decA A).2.2.1 = A.2.2.2.1.2.2.1 ∧ eqTo (decA A).2.2.2 A.2.2.2.1.2.2.2.1 (i + 1) = true))) (xb_and.trans (xb_c (by rw [eqTo_s]; exact ⟨fun h => ⟨h.1.1, h.1.2, h.2⟩, fun h => ⟨⟨h.1, h.2.1⟩, h.2.2⟩⟩))) ?_
            refine x_istore_n hC d_MessageCoderModel_isSame_60 rfl (Nat.le_of_ble_eq_true rfl) (L1 := [some (.ref m), some (.int (xb ((decA A).2.2.1 = A.2.2.2.1.2.2.1 ∧ eqTo (decA A).2.2.2 A.2.2.2.1.2.2.2.1 (i + 1) = true))), some (.int (nI (i)))]) rfl ?_
            refine x_iinc hC d_MessageCoderModel_isSame_61 rfl (v := (nI (i + 1))) (x_incN 1) (Nat.le_of_ble_eq_true rfl) (L1 := [some (.ref m), some (.int (xb ((decA A).2.2.1 = A.2.2.2.1.2.2.1 ∧ eqTo (decA A).2.2.2 A.2.2.2.1.2.2.2.1 (i + 1) = true))), some (.int (nI (i + 1)))]) rfl ?_
            refine x_goto hC d_MessageCoderModel_isSame_64 (tgt := 26) (by decide) ?_
            exact ih_26 Fh26 (i + 1) o0 ga h7 hag (by omega) (by omega)
          · skip
            refine x_iconst hC d_MessageCoderModel_isSame_54 (v := nI 1) (by decide) ?_
            refine x_goto hC d_MessageCoderModel_isSame_55 (tgt := 59) (by decide) ?_
            refine x_top (v := (xb ((decA A).2.2.2 i = A.2.2.2.1.2.2.2.1 i))) (xb_t1 (by omega)) ?_
            refine x_iand hC d_MessageCoderModel_isSame_59 (v := (xb ((decA A).2.2.1 = A.2.2.2.1.2.2.1 ∧ eqTo (decA A).2.2.2 A.2.2.2.1.2.2.2.1 (i + 1) = true))) (xb_and.trans (xb_c (by rw [eqTo_s]; exact ⟨fun h => ⟨h.1.1, h.1.2, h.2⟩, fun h => ⟨⟨h.1, h.2.1⟩, h.2.2⟩⟩))) ?_
            refine x_istore_n hC d_MessageCoderModel_isSame_60 rfl (Nat.le_of_ble_eq_true rfl) (L1 := [some (.ref m), some (.int (xb ((decA A).2.2.1 = A.2.2.2.1.2.2.1 ∧ eqTo (decA A).2.2.2 A.2.2.2.1.2.2.2.1 (i + 1) = true))), some (.int (nI (i)))]) rfl ?_
            refine x_iinc hC d_MessageCoderModel_isSame_61 rfl (v := (nI (i + 1))) (x_incN 1) (Nat.le_of_ble_eq_true rfl) (L1 := [some (.ref m), some (.int (xb ((decA A).2.2.1 = A.2.2.2.1.2.2.1 ∧ eqTo (decA A).2.2.2 A.2.2.2.1.2.2.2.1 (i + 1) = true))), some (.int (nI (i + 1)))]) rfl ?_
            refine x_goto hC d_MessageCoderModel_isSame_64 (tgt := 26) (by decide) ?_
            exact ih_26 Fh26 (i + 1) o0 ga h7 hag (by omega) (by omega)
    exact loop_26 ((decA A).2.2.1 - 0 + 1) F1 (0) o0 ga h7 hag (by omega) (by omega)
  · skip
    refine x_iconst hC d_MessageCoderModel_isSame_18 (v := nI 1) (by decide) ?_
    refine x_goto hC d_MessageCoderModel_isSame_19 (tgt := 23) (by decide) ?_
    refine x_top (v := (xb ((decA A).2.2.1 = A.2.2.2.1.2.2.1 ∧ eqTo (decA A).2.2.2 A.2.2.2.1.2.2.2.1 0 = true))) (xb_t1 ⟨c_15, rfl⟩) ?_
    refine x_istore_n hC d_MessageCoderModel_isSame_23 rfl (Nat.le_of_ble_eq_true rfl) (L1 := [some (.ref m), some (.int (xb ((decA A).2.2.1 = A.2.2.2.1.2.2.1 ∧ eqTo (decA A).2.2.2 A.2.2.2.1.2.2.2.1 0 = true))), none]) rfl ?_
    refine x_iconst hC d_MessageCoderModel_isSame_24 (v := nI 0) (by decide) ?_
    refine x_istore_n hC d_MessageCoderModel_isSame_25 rfl (Nat.le_of_ble_eq_true rfl) (L1 := [some (.ref m), some (.int (xb ((decA A).2.2.1 = A.2.2.2.1.2.2.1 ∧ eqTo (decA A).2.2.2 A.2.2.2.1.2.2.2.1 0 = true))), some (.int (nI 0))]) rfl ?_
    have loop_26 : ∀ (m9 : Nat) (Fh26 : xF) (i : Nat), (Fh26 (m) = some (.inl (10, [.int (nI (th)), .ref (m + 1), .int (nI (ch)), .int (nI (sv)), .int rs, .ref (m + 2), .ref (m + 3), .ref (m + 4), .ref (m + 5), .ref (m + 6), .int (nI (bm)), .ref (m + 7), .int (nI ((decA A).2.2.1)), .ref (m + 8), .ref (m + 9), .int (nI (lz)), .ref (m + 10), .int (nI (ty)), .int (nI (he)), .int er, .int ea, .int fa, .ref (m + 11), .int (nI (cn))]))) → (Fh26 (m + 1) = some (.inr (0, 4730, fun b9 => .int (nI (g b9))))) → (Fh26 (m + 7) = some (.inr (0, 16, fun b9 => .int (nI (d1_1 b9))))) → (∀ a9 : Nat, (a9 < m ∨ m + 1 ≤ a9) → (a9 < m + 7 ∨ m + 7 + 1 ≤ a9) → Fh26 a9 = F a9) → (i ≤ (decA A).2.2.1) → ((decA A).2.2.1 - i < m9) → xX P Θ 26 [some (.ref m), some (.int (xb ((decA A).2.2.1 = A.2.2.2.1.2.2.1 ∧ eqTo (decA A).2.2.2 A.2.2.2.1.2.2.2.1 i = true))), some (.int (nI (i)))] [] Fh26 (z) 0 0 := by
      intro m9
      induction m9 with
      | zero => intros; omega
      | succ m9 ih_26 =>
        intro Fh26 i o0 ga h7 hag hi hm_26
        refine x_iload_n hC d_MessageCoderModel_isSame_26 rfl rfl ?_
        refine x_aload_n hC d_MessageCoderModel_isSame_27 rfl rfl ?_
        refine x_getf hC kf_MessageCoderModel_106 o0 rfl d_MessageCoderModel_isSame_28 ?_
        refine x_icmpN_ge hC d_MessageCoderModel_isSame_31 (tgt := 67) (by decide) (by omega) (by omega) (fun c_31 => ?_) (fun c_31 => ?_)
        · skip
          refine x_iload_n hC d_MessageCoderModel_isSame_67 rfl rfl ?_
          exact hret _ _ _ _ _ _ _ d_MessageCoderModel_isSame_68 (by decide) (by decide) xb_nar (⟨d1_1, by rw [show i = (decA A).2.2.1 by omega], rfl, o0, ga, h7, pk_1, hag⟩)
        · skip
          have e1 := pk_1 i (by omega)
          have e2 := qf3 i (by omega)
          obtain ⟨e3, e4⟩ : 97 ≤ (decA A).2.2.2 i ∧ (decA A).2.2.2 i < 105 := decS_sy _ _ _ _ _ i (by show i < (decA A).2.2.1; omega)
          obtain ⟨e5, e6⟩ : 97 ≤ A.2.2.2.1.2.2.2.1 i ∧ A.2.2.2.1.2.2.2.1 i < 105 := ut i (by omega)
          refine x_iload_n hC d_MessageCoderModel_isSame_34 rfl rfl ?_
          refine x_aload_n hC d_MessageCoderModel_isSame_35 rfl rfl ?_
          refine x_getf hC kf_MessageCoderModel_28 o0 rfl d_MessageCoderModel_isSame_36 ?_
          refine x_iload_n hC d_MessageCoderModel_isSame_39 rfl rfl ?_
          refine x_iald hC h7 (j := i) ⟨rfl, by omega, by omega⟩ (x := nI (d1_1 (i))) rfl d_MessageCoderModel_isSame_40 ?_
          refine x_aload_n hC d_MessageCoderModel_isSame_41 rfl rfl ?_
          refine x_getf hC kf_MessageCoderModel_9 o0 rfl d_MessageCoderModel_isSame_42 ?_
          refine x_sipush hC d_MessageCoderModel_isSame_45 (v := nI 202) (by decide) ?_
          refine x_iload_n hC d_MessageCoderModel_isSame_48 rfl rfl ?_
          refine x_iadd hC d_MessageCoderModel_isSame_49 (v := (nI (202 + i))) (x_addN (by omega)) ?_
          refine x_iald hC ga (j := 202 + i) ⟨rfl, by omega, by omega⟩ (x := nI (g (202 + i))) rfl d_MessageCoderModel_isSame_50 ?_
          refine x_icmpN_ne hC d_MessageCoderModel_isSame_51 (tgt := 58) (by decide) (by omega) (by omega) (fun c_51 => ?_) (fun c_51 => ?_)
          · skip
            refine x_iconst hC d_MessageCoderModel_isSame_58 (v := nI 0) (by decide) ?_
            refine x_top (v := (xb ((decA A).2.2.2 i = A.2.2.2.1.2.2.2.1 i))) (xb_f0 (fun h9 => c_51 (by omega))) ?_
            refine x_iand hC d_MessageCoderModel_isSame_59 (v := (xb ((decA A).2.2.1 = A.2.2.2.1.2.2.1 ∧ eqTo (decA A).2.2.2 A.2.2.2.1.2.2.2.1 (i + 1) = true))) (xb_and.trans (xb_c (by rw [eqTo_s]; exact ⟨fun h => ⟨h.1.1, h.1.2, h.2⟩, fun h => ⟨⟨h.1, h.2.1⟩, h.2.2⟩⟩))) ?_
            refine x_istore_n hC d_MessageCoderModel_isSame_60 rfl (Nat.le_of_ble_eq_true rfl) (L1 := [some (.ref m), some (.int (xb ((decA A).2.2.1 = A.2.2.2.1.2.2.1 ∧ eqTo (decA A).2.2.2 A.2.2.2.1.2.2.2.1 (i + 1) = true))), some (.int (nI (i)))]) rfl ?_
            refine x_iinc hC d_MessageCoderModel_isSame_61 rfl (v := (nI (i + 1))) (x_incN 1) (Nat.le_of_ble_eq_true rfl) (L1 := [some (.ref m), some (.int (xb ((decA A).2.2.1 = A.2.2.2.1.2.2.1 ∧ eqTo (decA A).2.2.2 A.2.2.2.1.2.2.2.1 (i + 1) = true))), some (.int (nI (i + 1)))]) rfl ?_
            refine x_goto hC d_MessageCoderModel_isSame_64 (tgt := 26) (by decide) ?_
            exact ih_26 Fh26 (i + 1) o0 ga h7 hag (by omega) (by omega)
          · skip
            refine x_iconst hC d_MessageCoderModel_isSame_54 (v := nI 1) (by decide) ?_
            refine x_goto hC d_MessageCoderModel_isSame_55 (tgt := 59) (by decide) ?_
            refine x_top (v := (xb ((decA A).2.2.2 i = A.2.2.2.1.2.2.2.1 i))) (xb_t1 (by omega)) ?_
            refine x_iand hC d_MessageCoderModel_isSame_59 (v := (xb ((decA A).2.2.1 = A.2.2.2.1.2.2.1 ∧ eqTo (decA A).2.2.2 A.2.2.2.1.2.2.2.1 (i + 1) = true))) (xb_and.trans (xb_c (by rw [eqTo_s]; exact ⟨fun h => ⟨h.1.1, h.1.2, h.2⟩, fun h => ⟨⟨h.1, h.2.1⟩, h.2.2⟩⟩))) ?_
            refine x_istore_n hC d_MessageCoderModel_isSame_60 rfl (Nat.le_of_ble_eq_true rfl) (L1 := [some (.ref m), some (.int (xb ((decA A).2.2.1 = A.2.2.2.1.2.2.1 ∧ eqTo (decA A).2.2.2 A.2.2.2.1.2.2.2.1 (i + 1) = true))), some (.int (nI (i)))]) rfl ?_
            refine x_iinc hC d_MessageCoderModel_isSame_61 rfl (v := (nI (i + 1))) (x_incN 1) (Nat.le_of_ble_eq_true rfl) (L1 := [some (.ref m), some (.int (xb ((decA A).2.2.1 = A.2.2.2.1.2.2.1 ∧ eqTo (decA A).2.2.2 A.2.2.2.1.2.2.2.1 (i + 1) = true))), some (.int (nI (i + 1)))]) rfl ?_
            refine x_goto hC d_MessageCoderModel_isSame_64 (tgt := 26) (by decide) ?_
            exact ih_26 Fh26 (i + 1) o0 ga h7 hag (by omega) (by omega)
    exact loop_26 ((decA A).2.2.1 - 0 + 1) F1 (0) o0 ga h7 hag (by omega) (by omega)

