/-! the reference: changes' ends; its codes -/
theorem thC_le {y a1 a2 a3 a4 : Nat} (h1 : a1 ≤ 4) (h2 : a2 ≤ 4) (h3 : a3 ≤ 4) (h4 : a4 ≤ 4) : thC y a1 a2 a3 a4 ≤ 4 := by
  unfold thC
  repeat' split
  all_goals omega
theorem xo_lt {f : Nat} (hf : f ≤ 8) : xo f < 0 ↔ f = 8 := by
  constructor
  · intro h
    by_cases e : f = 8
    · exact e
    · rw [xo_of (by omega)] at h
      exact absurd h (nI_pos (by omega))
  · intro h
    rw [h]
    decide
theorem rk_bef {ln : Nat → Nat} {i j : Nat} (hi : i < 8) (hj : j < 8) : bef ln i j = true ↔ rkN ln i < rkN ln j := by
  constructor
  · exact rk_lt hi
  · intro h
    by_cases e : i = j
    · rw [e] at h; omega
    · rcases bef_tot (ln := ln) e with h1 | h1
      · exact h1
      · have := rk_lt hj h1
        omega
theorem hVal_0 (ln : Nat → Nat) : hVal ln (hOrd ln 0) = 0 := by
  have h0 := hOrd_8 ln (r := 0) (by omega)
  have h1 : ∀ k, k ≤ 8 → sumN (fun i => if bef ln i (hOrd ln 0) = true then 2 ^ (ln (hOrd ln 0) - ln i) else 0) k = 0 := by
    intro k
    induction k with
    | zero => intro _; rfl
    | succ k ih =>
      intro hk
      show sumN _ k + (if bef ln k (hOrd ln 0) = true then _ else 0) = 0
      rw [ih (by omega), if_neg (fun h => by have := (rk_bef (by omega) h0.1).mp h; omega)]
  exact h1 8 (Nat.le_refl 8)
theorem hVal_next (ln : Nat → Nat) {r : Nat} (h1 : 1 ≤ r) (h8 : r < 8) : ln (hOrd ln (r - 1)) ≤ ln (hOrd ln r) ∧ hVal ln (hOrd ln r) = (hVal ln (hOrd ln (r - 1)) + 1) * 2 ^ (ln (hOrd ln r) - ln (hOrd ln (r - 1))) := by
  obtain ⟨b8, br⟩ := hOrd_8 ln (r := r - 1) (by omega)
  obtain ⟨s8, sr⟩ := hOrd_8 ln h8
  generalize hOrd ln (r - 1) = b at *
  generalize hOrd ln r = s at *
  have hbs : bef ln b s = true := (rk_bef b8 s8).mpr (by omega)
  have hle : ln b ≤ ln s := by have := bef_iff.mp hbs; omega
  refine ⟨hle, ?_⟩
  have e1 := sumN_pull (f := fun i => if bef ln i s = true then 2 ^ (ln s - ln i) else 0) (p := b) 8 b8
  have e2 : (if bef ln b s = true then 2 ^ (ln s - ln b) else 0) = 2 ^ (ln s - ln b) := if_pos hbs
  have e3 : sumN (fun j => if j = b then 0 else if bef ln j s = true then 2 ^ (ln s - ln j) else 0) 8 = sumN (fun j => 2 ^ (ln s - ln b) * (if bef ln j b = true then 2 ^ (ln b - ln j) else 0)) 8 := sumN_ext 8 (fun j hj => by
    by_cases c : j = b
    · rw [if_pos c, if_neg (fun h => by have := (rk_bef hj b8).mp h; rw [c] at this; omega), Nat.mul_zero]
    · rw [if_neg c]
      have hne : rkN ln j ≠ rkN ln b := fun h => c (rk_inj hj b8 h)
      by_cases q : bef ln j b = true
      · have q1 := (rk_bef hj b8).mp q
        have q2 := bef_iff.mp q
        rw [if_pos ((rk_bef hj s8).mpr (by omega)), if_pos q, ← Nat.pow_add]
        congr 1
        omega
      · have q1 : ¬ rkN ln j < rkN ln b := fun h => q ((rk_bef hj b8).mpr h)
        rw [if_neg (fun h => by have := (rk_bef hj s8).mp h; omega), if_neg q, Nat.mul_zero])
  have e4 : hVal ln s = (if bef ln b s = true then 2 ^ (ln s - ln b) else 0) + sumN (fun j => if j = b then 0 else if bef ln j s = true then 2 ^ (ln s - ln j) else 0) 8 := e1
  have e5 : hVal ln b = sumN (fun j => if bef ln j b = true then 2 ^ (ln b - ln j) else 0) 8 := rfl
  rw [e4, e2, e3, sumN_mul, ← e5, Nat.add_mul, Nat.one_mul, Nat.mul_comm]
  omega
theorem ord_ext {l1 l2 : Nat → Nat} (h : ∀ j, j < 8 → l1 j = l2 j) : ∀ j, j < 8 → rkN l1 j = rkN l2 j := fun j hj => cntN_ext 8 (fun i hi => by
  unfold bef
  rw [h i hi, h j hj])

theorem d_MessageCoderModel_ends_0 : decode prog_14_method_6_code 0 = .ok (.aload_n 0, 1) := by decide +kernel
theorem d_MessageCoderModel_ends_1 : decode prog_14_method_6_code 1 = .ok (.iload_n 1, 1) := by decide +kernel
theorem d_MessageCoderModel_ends_2 : decode prog_14_method_6_code 2 = .ok (.iconst 1, 1) := by decide +kernel
theorem d_MessageCoderModel_ends_3 : decode prog_14_method_6_code 3 = .ok (.if_icmp .ne 7, 3) := by decide +kernel
theorem d_MessageCoderModel_ends_6 : decode prog_14_method_6_code 6 = .ok (.iload_n 2, 1) := by decide +kernel
theorem d_MessageCoderModel_ends_7 : decode prog_14_method_6_code 7 = .ok (.goto 33, 3) := by decide +kernel
theorem d_MessageCoderModel_ends_10 : decode prog_14_method_6_code 10 = .ok (.iload_n 1, 1) := by decide +kernel
theorem d_MessageCoderModel_ends_11 : decode prog_14_method_6_code 11 = .ok (.iconst 2, 1) := by decide +kernel
theorem d_MessageCoderModel_ends_12 : decode prog_14_method_6_code 12 = .ok (.if_icmp .ne 7, 3) := by decide +kernel
theorem d_MessageCoderModel_ends_15 : decode prog_14_method_6_code 15 = .ok (.iload_n 3, 1) := by decide +kernel
theorem d_MessageCoderModel_ends_16 : decode prog_14_method_6_code 16 = .ok (.goto 24, 3) := by decide +kernel
theorem d_MessageCoderModel_ends_19 : decode prog_14_method_6_code 19 = .ok (.iload_n 1, 1) := by decide +kernel
theorem d_MessageCoderModel_ends_20 : decode prog_14_method_6_code 20 = .ok (.iconst 3, 1) := by decide +kernel
theorem d_MessageCoderModel_ends_21 : decode prog_14_method_6_code 21 = .ok (.if_icmp .ne 8, 3) := by decide +kernel
theorem d_MessageCoderModel_ends_24 : decode prog_14_method_6_code 24 = .ok (.iload 4, 2) := by decide +kernel
theorem d_MessageCoderModel_ends_26 : decode prog_14_method_6_code 26 = .ok (.goto 14, 3) := by decide +kernel
theorem d_MessageCoderModel_ends_29 : decode prog_14_method_6_code 29 = .ok (.iload_n 1, 1) := by decide +kernel
theorem d_MessageCoderModel_ends_30 : decode prog_14_method_6_code 30 = .ok (.iconst 4, 1) := by decide +kernel
theorem d_MessageCoderModel_ends_31 : decode prog_14_method_6_code 31 = .ok (.if_icmp .ne 8, 3) := by decide +kernel
theorem d_MessageCoderModel_ends_34 : decode prog_14_method_6_code 34 = .ok (.iload 5, 2) := by decide +kernel
theorem d_MessageCoderModel_ends_36 : decode prog_14_method_6_code 36 = .ok (.goto 4, 3) := by decide +kernel
theorem d_MessageCoderModel_ends_39 : decode prog_14_method_6_code 39 = .ok (.iconst 0, 1) := by decide +kernel
theorem d_MessageCoderModel_ends_40 : decode prog_14_method_6_code 40 = .ok (.putfield 51, 3) := by decide +kernel
theorem d_MessageCoderModel_ends_43 : decode prog_14_method_6_code 43 = .ok (.aload_n 0, 1) := by decide +kernel
theorem d_MessageCoderModel_ends_44 : decode prog_14_method_6_code 44 = .ok (.getfield 51, 3) := by decide +kernel
theorem d_MessageCoderModel_ends_47 : decode prog_14_method_6_code 47 = .ok (.ifCond .eq 12, 3) := by decide +kernel
theorem d_MessageCoderModel_ends_50 : decode prog_14_method_6_code 50 = .ok (.aload_n 0, 1) := by decide +kernel
theorem d_MessageCoderModel_ends_51 : decode prog_14_method_6_code 51 = .ok (.bipush 10, 2) := by decide +kernel
theorem d_MessageCoderModel_ends_53 : decode prog_14_method_6_code 53 = .ok (.iconst 0, 1) := by decide +kernel
theorem d_MessageCoderModel_ends_54 : decode prog_14_method_6_code 54 = .ok (.invokevirtual 54, 3) := by decide +kernel
theorem d_MessageCoderModel_ends_57 : decode prog_14_method_6_code 57 = .ok (.iconst 0, 1) := by decide +kernel
theorem d_MessageCoderModel_ends_58 : decode prog_14_method_6_code 58 = .ok (.ireturn, 1) := by decide +kernel
theorem d_MessageCoderModel_ends_59 : decode prog_14_method_6_code 59 = .ok (.aload_n 0, 1) := by decide +kernel
theorem d_MessageCoderModel_ends_60 : decode prog_14_method_6_code 60 = .ok (.getfield 58, 3) := by decide +kernel
theorem d_MessageCoderModel_ends_63 : decode prog_14_method_6_code 63 = .ok (.bipush 8, 2) := by decide +kernel
theorem d_MessageCoderModel_ends_65 : decode prog_14_method_6_code 65 = .ok (.if_icmp .ne 39, 3) := by decide +kernel
theorem d_MessageCoderModel_ends_68 : decode prog_14_method_6_code 68 = .ok (.iconst 1, 1) := by decide +kernel
theorem d_MessageCoderModel_ends_69 : decode prog_14_method_6_code 69 = .ok (.istore 6, 2) := by decide +kernel
theorem d_MessageCoderModel_ends_71 : decode prog_14_method_6_code 71 = .ok (.iload 6, 2) := by decide +kernel
theorem d_MessageCoderModel_ends_73 : decode prog_14_method_6_code 73 = .ok (.bipush 8, 2) := by decide +kernel
theorem d_MessageCoderModel_ends_75 : decode prog_14_method_6_code 75 = .ok (.if_icmp .ge 19, 3) := by decide +kernel
theorem d_MessageCoderModel_ends_78 : decode prog_14_method_6_code 78 = .ok (.aload_n 0, 1) := by decide +kernel
theorem d_MessageCoderModel_ends_79 : decode prog_14_method_6_code 79 = .ok (.iload 6, 2) := by decide +kernel
theorem d_MessageCoderModel_ends_81 : decode prog_14_method_6_code 81 = .ok (.iconst 1, 1) := by decide +kernel
theorem d_MessageCoderModel_ends_82 : decode prog_14_method_6_code 82 = .ok (.iadd, 1) := by decide +kernel
theorem d_MessageCoderModel_ends_83 : decode prog_14_method_6_code 83 = .ok (.iload 6, 2) := by decide +kernel
theorem d_MessageCoderModel_ends_85 : decode prog_14_method_6_code 85 = .ok (.invokevirtual 54, 3) := by decide +kernel
theorem d_MessageCoderModel_ends_88 : decode prog_14_method_6_code 88 = .ok (.iinc 6 1, 3) := by decide +kernel
theorem d_MessageCoderModel_ends_91 : decode prog_14_method_6_code 91 = .ok (.goto (-20), 3) := by decide +kernel
theorem d_MessageCoderModel_ends_94 : decode prog_14_method_6_code 94 = .ok (.aload_n 0, 1) := by decide +kernel
theorem d_MessageCoderModel_ends_95 : decode prog_14_method_6_code 95 = .ok (.dup, 1) := by decide +kernel
theorem d_MessageCoderModel_ends_96 : decode prog_14_method_6_code 96 = .ok (.getfield 58, 3) := by decide +kernel
theorem d_MessageCoderModel_ends_99 : decode prog_14_method_6_code 99 = .ok (.iconst 1, 1) := by decide +kernel
theorem d_MessageCoderModel_ends_100 : decode prog_14_method_6_code 100 = .ok (.isub, 1) := by decide +kernel
theorem d_MessageCoderModel_ends_101 : decode prog_14_method_6_code 101 = .ok (.putfield 58, 3) := by decide +kernel
theorem d_MessageCoderModel_ends_104 : decode prog_14_method_6_code 104 = .ok (.aload_n 0, 1) := by decide +kernel
theorem d_MessageCoderModel_ends_105 : decode prog_14_method_6_code 105 = .ok (.dup, 1) := by decide +kernel
theorem d_MessageCoderModel_ends_106 : decode prog_14_method_6_code 106 = .ok (.getfield 58, 3) := by decide +kernel
theorem d_MessageCoderModel_ends_109 : decode prog_14_method_6_code 109 = .ok (.iconst 1, 1) := by decide +kernel
theorem d_MessageCoderModel_ends_110 : decode prog_14_method_6_code 110 = .ok (.iadd, 1) := by decide +kernel
theorem d_MessageCoderModel_ends_111 : decode prog_14_method_6_code 111 = .ok (.putfield 58, 3) := by decide +kernel
theorem d_MessageCoderModel_ends_114 : decode prog_14_method_6_code 114 = .ok (.aload_n 0, 1) := by decide +kernel
theorem d_MessageCoderModel_ends_115 : decode prog_14_method_6_code 115 = .ok (.bipush 10, 2) := by decide +kernel
theorem d_MessageCoderModel_ends_117 : decode prog_14_method_6_code 117 = .ok (.aload_n 0, 1) := by decide +kernel
theorem d_MessageCoderModel_ends_118 : decode prog_14_method_6_code 118 = .ok (.getfield 58, 3) := by decide +kernel
theorem d_MessageCoderModel_ends_121 : decode prog_14_method_6_code 121 = .ok (.invokevirtual 54, 3) := by decide +kernel
theorem d_MessageCoderModel_ends_124 : decode prog_14_method_6_code 124 = .ok (.aload_n 0, 1) := by decide +kernel
theorem d_MessageCoderModel_ends_125 : decode prog_14_method_6_code 125 = .ok (.getfield 61, 3) := by decide +kernel
theorem d_MessageCoderModel_ends_128 : decode prog_14_method_6_code 128 = .ok (.ireturn, 1) := by decide +kernel
set_option maxHeartbeats 4000000 in
set_option maxRecDepth 20000 in
theorem c_MessageCoderModel_ends {P : xP} {F : xF} {z : Nat} {m : Nat} {th : Nat} {ch : Nat} {sv : Nat} {rs : Int32} {bm : Nat} {dm : Nat} {lz : Nat} {ty : Nat} {he : Nat} {er : Int32} {ea : Int32} {fa : Int32} {cn : Nat} {g : Nat → Nat} {y : Nat} {a1 : Nat} {a2 : Nat} {a3 : Nat} {a4 : Nat} (o0 : F (m) = some (.inl (10, [.int (nI (th)), .ref (m + 1), .int (nI (ch)), .int (nI (sv)), .int rs, .ref (m + 2), .ref (m + 3), .ref (m + 4), .ref (m + 5), .ref (m + 6), .int (nI (bm)), .ref (m + 7), .int (nI (dm)), .ref (m + 8), .ref (m + 9), .int (nI (lz)), .ref (m + 10), .int (nI (ty)), .int (nI (he)), .int er, .int ea, .int fa, .ref (m + 11), .int (nI (cn))]))) (ga : F (m + 1) = some (.inr (0, 4730, fun b9 => .int (nI (g b9))))) (hy : y ≤ 4) (h1 : a1 ≤ 4) (h2 : a2 ≤ 4) (h3 : a3 ≤ 4) (h4 : a4 ≤ 4) (hch : ch ≤ 8) : xM P xy_MessageCoderModel_ends [.ref m, .int (nI (y)), .int (nI (a1)), .int (nI (a2)), .int (nI (a3)), .int (nI (a4))] F (z) 0 0 (fun r9 F9 z9 => r9 = some (.int (if thC y a1 a2 a3 a4 = 0 then rs else nI 0)) ∧ z9 = z ∧ F9 (m) = some (.inl (10, [.int (nI ((thC y a1 a2 a3 a4))), .ref (m + 1), .int (nI ((if thC y a1 a2 a3 a4 = 0 then endC ch else ch))), .int (nI (sv)), .int rs, .ref (m + 2), .ref (m + 3), .ref (m + 4), .ref (m + 5), .ref (m + 6), .int (nI (bm)), .ref (m + 7), .int (nI (dm)), .ref (m + 8), .ref (m + 9), .int (nI (lz)), .ref (m + 10), .int (nI (ty)), .int (nI (he)), .int er, .int ea, .int fa, .ref (m + 11), .int (nI (cn))])) ∧ F9 (m + 1) = some (.inr (0, 4730, fun b9 => .int (nI ((if thC y a1 a2 a3 a4 = 0 then endG g ch else cpyR g 10 0) b9)))) ∧ (∀ a9 : Nat, (a9 < m ∨ m + 2 ≤ a9) → F9 a9 = F a9)) := by
  refine xM_i .int rfl (Nat.le_of_ble_eq_true rfl) (L0 := [some (.ref m), some (.int (nI (y))), some (.int (nI (a1))), some (.int (nI (a2))), some (.int (nI (a3))), some (.int (nI (a4))), none]) rfl rfl fun Θ hC hret => ?_
  have hag : ∀ a9 : Nat, (a9 < m ∨ m + 2 ≤ a9) → F a9 = F a9 := fun a9 _ => rfl
  refine x_aload_n hC d_MessageCoderModel_ends_0 rfl rfl ?_
  refine x_iload_n hC d_MessageCoderModel_ends_1 rfl rfl ?_
  refine x_iconst hC d_MessageCoderModel_ends_2 (v := nI 1) (by decide) ?_
  refine x_icmpN_ne hC d_MessageCoderModel_ends_3 (tgt := 10) (by decide) (by omega) (by omega) (fun c_3 => ?_) (fun c_3 => ?_)
  · skip
    refine x_iload_n hC d_MessageCoderModel_ends_10 rfl rfl ?_
    refine x_iconst hC d_MessageCoderModel_ends_11 (v := nI 2) (by decide) ?_
    refine x_icmpN_ne hC d_MessageCoderModel_ends_12 (tgt := 19) (by decide) (by omega) (by omega) (fun c_12 => ?_) (fun c_12 => ?_)
    · skip
      refine x_iload_n hC d_MessageCoderModel_ends_19 rfl rfl ?_
      refine x_iconst hC d_MessageCoderModel_ends_20 (v := nI 3) (by decide) ?_
      refine x_icmpN_ne hC d_MessageCoderModel_ends_21 (tgt := 29) (by decide) (by omega) (by omega) (fun c_21 => ?_) (fun c_21 => ?_)
      · skip
        refine x_iload_n hC d_MessageCoderModel_ends_29 rfl rfl ?_
        refine x_iconst hC d_MessageCoderModel_ends_30 (v := nI 4) (by decide) ?_
        refine x_icmpN_ne hC d_MessageCoderModel_ends_31 (tgt := 39) (by decide) (by omega) (by omega) (fun c_31 => ?_) (fun c_31 => ?_)
        · skip
          refine x_iconst hC d_MessageCoderModel_ends_39 (v := nI 0) (by decide) ?_
          have hth := thC_le (y := y) h1 h2 h3 h4
          refine x_top (v := (nI (thC y a1 a2 a3 a4))) (congrArg nI (by unfold thC; rw [if_neg c_3, if_neg c_12, if_neg c_21, if_neg c_31])) ?_
          refine x_putf hC kf_MessageCoderModel_51 o0 (Nat.le_of_ble_eq_true rfl) rfl rfl d_MessageCoderModel_ends_40 (fs1 := [.int (nI (thC y a1 a2 a3 a4)), .ref (m + 1), .int (nI (ch)), .int (nI (sv)), .int rs, .ref (m + 2), .ref (m + 3), .ref (m + 4), .ref (m + 5), .ref (m + 6), .int (nI (bm)), .ref (m + 7), .int (nI (dm)), .ref (m + 8), .ref (m + 9), .int (nI (lz)), .ref (m + 10), .int (nI (ty)), .int (nI (he)), .int er, .int ea, .int fa, .ref (m + 11), .int (nI (cn))]) rfl ?_
          generalize e1 : xup F (m) (.inl (10, [.int (nI (thC y a1 a2 a3 a4)), .ref (m + 1), .int (nI (ch)), .int (nI (sv)), .int rs, .ref (m + 2), .ref (m + 3), .ref (m + 4), .ref (m + 5), .ref (m + 6), .int (nI (bm)), .ref (m + 7), .int (nI (dm)), .ref (m + 8), .ref (m + 9), .int (nI (lz)), .ref (m + 10), .int (nI (ty)), .int (nI (he)), .int er, .int ea, .int fa, .ref (m + 11), .int (nI (cn))])) = F1
          have o0 : F1 (m) = some (.inl (10, [.int (nI (thC y a1 a2 a3 a4)), .ref (m + 1), .int (nI (ch)), .int (nI (sv)), .int rs, .ref (m + 2), .ref (m + 3), .ref (m + 4), .ref (m + 5), .ref (m + 6), .int (nI (bm)), .ref (m + 7), .int (nI (dm)), .ref (m + 8), .ref (m + 9), .int (nI (lz)), .ref (m + 10), .int (nI (ty)), .int (nI (he)), .int er, .int ea, .int fa, .ref (m + 11), .int (nI (cn))])) := by rw [← e1]; exact xup_eq
          have ga : F1 (m + 1) = some (.inr (0, 4730, fun b9 => .int (nI (g b9)))) := by rw [← e1]; exact (xup_ne (by omega)).trans ga
          have hag : ∀ a9 : Nat, (a9 < m ∨ m + 2 ≤ a9) → F1 a9 = F a9 := fun a9 q0 => by rw [← e1]; exact (xup_ne (by omega)).trans (hag a9 q0)
          refine x_aload_n hC d_MessageCoderModel_ends_43 rfl rfl ?_
          refine x_getf hC kf_MessageCoderModel_51 o0 rfl d_MessageCoderModel_ends_44 ?_
          refine x_ifN_eq hC d_MessageCoderModel_ends_47 (tgt := 59) (by decide) (by omega) (fun c_47 => ?_) (fun c_47 => ?_)
          · skip
            refine x_aload_n hC d_MessageCoderModel_ends_59 rfl rfl ?_
            refine x_getf hC kf_MessageCoderModel_58 o0 rfl d_MessageCoderModel_ends_60 ?_
            refine x_bipush hC d_MessageCoderModel_ends_63 (v := nI 8) (by decide) ?_
            refine x_icmpN_ne hC d_MessageCoderModel_ends_65 (tgt := 104) (by decide) (by omega) (by omega) (fun c_65 => ?_) (fun c_65 => ?_)
            · skip
              refine x_aload_n hC d_MessageCoderModel_ends_104 rfl rfl ?_
              refine x_dup hC d_MessageCoderModel_ends_105 rfl ?_
              refine x_getf hC kf_MessageCoderModel_58 o0 rfl d_MessageCoderModel_ends_106 ?_
              refine x_iconst hC d_MessageCoderModel_ends_109 (v := nI 1) (by decide) ?_
              refine x_iadd hC d_MessageCoderModel_ends_110 (v := (nI (ch + 1))) (x_addN (by omega)) ?_
              refine x_putf hC kf_MessageCoderModel_58 o0 (Nat.le_of_ble_eq_true rfl) rfl rfl d_MessageCoderModel_ends_111 (fs1 := [.int (nI (thC y a1 a2 a3 a4)), .ref (m + 1), .int (nI (ch + 1)), .int (nI (sv)), .int rs, .ref (m + 2), .ref (m + 3), .ref (m + 4), .ref (m + 5), .ref (m + 6), .int (nI (bm)), .ref (m + 7), .int (nI (dm)), .ref (m + 8), .ref (m + 9), .int (nI (lz)), .ref (m + 10), .int (nI (ty)), .int (nI (he)), .int er, .int ea, .int fa, .ref (m + 11), .int (nI (cn))]) rfl ?_
              generalize e2 : xup F1 (m) (.inl (10, [.int (nI (thC y a1 a2 a3 a4)), .ref (m + 1), .int (nI (ch + 1)), .int (nI (sv)), .int rs, .ref (m + 2), .ref (m + 3), .ref (m + 4), .ref (m + 5), .ref (m + 6), .int (nI (bm)), .ref (m + 7), .int (nI (dm)), .ref (m + 8), .ref (m + 9), .int (nI (lz)), .ref (m + 10), .int (nI (ty)), .int (nI (he)), .int er, .int ea, .int fa, .ref (m + 11), .int (nI (cn))])) = F2
              have o0 : F2 (m) = some (.inl (10, [.int (nI (thC y a1 a2 a3 a4)), .ref (m + 1), .int (nI (ch + 1)), .int (nI (sv)), .int rs, .ref (m + 2), .ref (m + 3), .ref (m + 4), .ref (m + 5), .ref (m + 6), .int (nI (bm)), .ref (m + 7), .int (nI (dm)), .ref (m + 8), .ref (m + 9), .int (nI (lz)), .ref (m + 10), .int (nI (ty)), .int (nI (he)), .int er, .int ea, .int fa, .ref (m + 11), .int (nI (cn))])) := by rw [← e2]; exact xup_eq
              have ga : F2 (m + 1) = some (.inr (0, 4730, fun b9 => .int (nI (g b9)))) := by rw [← e2]; exact (xup_ne (by omega)).trans ga
              have hag : ∀ a9 : Nat, (a9 < m ∨ m + 2 ≤ a9) → F2 a9 = F a9 := fun a9 q0 => by rw [← e2]; exact (xup_ne (by omega)).trans (hag a9 q0)
              refine x_aload_n hC d_MessageCoderModel_ends_114 rfl rfl ?_
              refine x_bipush hC d_MessageCoderModel_ends_115 (v := nI 10) (by decide) ?_
              refine x_aload_n hC d_MessageCoderModel_ends_117 rfl rfl ?_
              refine x_getf hC kf_MessageCoderModel_58 o0 rfl d_MessageCoderModel_ends_118 ?_
              refine x_callV hC kv_MessageCoderModel_54 (c_MessageCoderModel_copies (o0 := o0) (ga := ga) (hf := by omega) (ht := by omega) (hft := by omega)) o0 rfl rfl (by decide) rfl rfl rfl (Nat.le_of_ble_eq_true rfl) (by decide) d_MessageCoderModel_ends_121 (fun r9 F9 z9 hp9 => ?_)
              obtain ⟨rfl, h9c, j0, j1, hag9⟩ := hp9
              rw [h9c]
              clear h9c z9
              generalize F9 = F3 at *
              have o0 : F3 (m) = some (.inl (10, [.int (nI ((thC y a1 a2 a3 a4))), .ref (m + 1), .int (nI ((ch + 1))), .int (nI (sv)), .int rs, .ref (m + 2), .ref (m + 3), .ref (m + 4), .ref (m + 5), .ref (m + 6), .int (nI (bm)), .ref (m + 7), .int (nI (dm)), .ref (m + 8), .ref (m + 9), .int (nI (lz)), .ref (m + 10), .int (nI (ty)), .int (nI (he)), .int er, .int ea, .int fa, .ref (m + 11), .int (nI (cn))])) := j0
              have ga : F3 (m + 1) = some (.inr (0, 4730, fun b9 => .int (nI ((cpyR g 10 (ch + 1)) b9)))) := j1
              have hag : ∀ a9 : Nat, (a9 < m ∨ m + 2 ≤ a9) → F3 a9 = F a9 := fun a9 q0 => (hag9 a9 (by omega)).trans (hag a9 q0)
              have hg_121 := hag9
              clear hag9
              refine x_aload_n hC d_MessageCoderModel_ends_124 rfl rfl ?_
              refine x_getf hC kf_MessageCoderModel_61 o0 rfl d_MessageCoderModel_ends_125 ?_
              exact hret _ _ _ _ _ _ _ d_MessageCoderModel_ends_128 (by decide) (by decide) rfl (⟨congrArg (fun q => some (Value.int q)) ((if_pos c_47).symm), rfl, by rw [if_pos c_47]; unfold endC; rw [if_neg c_65]; exact o0, by rw [if_pos c_47]; unfold endG; rw [if_neg c_65]; exact ga, hag⟩)
            · skip
              refine x_iconst hC d_MessageCoderModel_ends_68 (v := nI 1) (by decide) ?_
              refine x_istore hC d_MessageCoderModel_ends_69 (Nat.le_of_ble_eq_true rfl) (L1 := [some (.ref m), some (.int (nI (y))), some (.int (nI (a1))), some (.int (nI (a2))), some (.int (nI (a3))), some (.int (nI (a4))), some (.int (nI 1))]) rfl ?_
              have loop_71 : ∀ (m9 : Nat) (Fh71 : xF) (i : Nat), (Fh71 (m) = some (.inl (10, [.int (nI ((thC y a1 a2 a3 a4))), .ref (m + 1), .int (nI (ch)), .int (nI (sv)), .int rs, .ref (m + 2), .ref (m + 3), .ref (m + 4), .ref (m + 5), .ref (m + 6), .int (nI (bm)), .ref (m + 7), .int (nI (dm)), .ref (m + 8), .ref (m + 9), .int (nI (lz)), .ref (m + 10), .int (nI (ty)), .int (nI (he)), .int er, .int ea, .int fa, .ref (m + 11), .int (nI (cn))]))) → (Fh71 (m + 1) = some (.inr (0, 4730, fun b9 => .int (nI ((shG g i) b9))))) → (∀ a9 : Nat, (a9 < m ∨ m + 2 ≤ a9) → Fh71 a9 = F a9) → (i ≤ 7) → (7 - i < m9) → xX P Θ 71 [some (.ref m), some (.int (nI (y))), some (.int (nI (a1))), some (.int (nI (a2))), some (.int (nI (a3))), some (.int (nI (a4))), some (.int (nI (i + 1)))] [] Fh71 (z) 0 0 := by
                intro m9
                induction m9 with
                | zero => intros; omega
                | succ m9 ih_71 =>
                  intro Fh71 i o0 ga hag hi hm_71
                  refine x_iload hC d_MessageCoderModel_ends_71 rfl ?_
                  refine x_bipush hC d_MessageCoderModel_ends_73 (v := nI 8) (by decide) ?_
                  refine x_icmpN_ge hC d_MessageCoderModel_ends_75 (tgt := 94) (by decide) (by omega) (by omega) (fun c_75 => ?_) (fun c_75 => ?_)
                  · skip
                    obtain rfl : i = 7 := by omega
                    refine x_aload_n hC d_MessageCoderModel_ends_94 rfl rfl ?_
                    refine x_dup hC d_MessageCoderModel_ends_95 rfl ?_
                    refine x_getf hC kf_MessageCoderModel_58 o0 rfl d_MessageCoderModel_ends_96 ?_
                    refine x_iconst hC d_MessageCoderModel_ends_99 (v := nI 1) (by decide) ?_
                    refine x_isub hC d_MessageCoderModel_ends_100 (v := (nI ((ch) - 1))) (pk_sub (by omega)) ?_
                    refine x_top (v := (nI (7))) (congrArg nI (by omega)) ?_
                    refine x_putf hC kf_MessageCoderModel_58 o0 (Nat.le_of_ble_eq_true rfl) rfl rfl d_MessageCoderModel_ends_101 (fs1 := [.int (nI ((thC y a1 a2 a3 a4))), .ref (m + 1), .int (nI 7), .int (nI (sv)), .int rs, .ref (m + 2), .ref (m + 3), .ref (m + 4), .ref (m + 5), .ref (m + 6), .int (nI (bm)), .ref (m + 7), .int (nI (dm)), .ref (m + 8), .ref (m + 9), .int (nI (lz)), .ref (m + 10), .int (nI (ty)), .int (nI (he)), .int er, .int ea, .int fa, .ref (m + 11), .int (nI (cn))]) rfl ?_
                    generalize e4 : xup Fh71 (m) (.inl (10, [.int (nI ((thC y a1 a2 a3 a4))), .ref (m + 1), .int (nI 7), .int (nI (sv)), .int rs, .ref (m + 2), .ref (m + 3), .ref (m + 4), .ref (m + 5), .ref (m + 6), .int (nI (bm)), .ref (m + 7), .int (nI (dm)), .ref (m + 8), .ref (m + 9), .int (nI (lz)), .ref (m + 10), .int (nI (ty)), .int (nI (he)), .int er, .int ea, .int fa, .ref (m + 11), .int (nI (cn))])) = F4
                    have o0 : F4 (m) = some (.inl (10, [.int (nI ((thC y a1 a2 a3 a4))), .ref (m + 1), .int (nI 7), .int (nI (sv)), .int rs, .ref (m + 2), .ref (m + 3), .ref (m + 4), .ref (m + 5), .ref (m + 6), .int (nI (bm)), .ref (m + 7), .int (nI (dm)), .ref (m + 8), .ref (m + 9), .int (nI (lz)), .ref (m + 10), .int (nI (ty)), .int (nI (he)), .int er, .int ea, .int fa, .ref (m + 11), .int (nI (cn))])) := by rw [← e4]; exact xup_eq
                    have ga : F4 (m + 1) = some (.inr (0, 4730, fun b9 => .int (nI ((shG g 7) b9)))) := by rw [← e4]; exact (xup_ne (by omega)).trans ga
                    have hag : ∀ a9 : Nat, (a9 < m ∨ m + 2 ≤ a9) → F4 a9 = F a9 := fun a9 q0 => by rw [← e4]; exact (xup_ne (by omega)).trans (hag a9 q0)
                    refine x_aload_n hC d_MessageCoderModel_ends_104 rfl rfl ?_
                    refine x_dup hC d_MessageCoderModel_ends_105 rfl ?_
                    refine x_getf hC kf_MessageCoderModel_58 o0 rfl d_MessageCoderModel_ends_106 ?_
                    refine x_iconst hC d_MessageCoderModel_ends_109 (v := nI 1) (by decide) ?_
                    refine x_iadd hC d_MessageCoderModel_ends_110 (v := (nI (8))) (x_addN (by omega)) ?_
                    refine x_putf hC kf_MessageCoderModel_58 o0 (Nat.le_of_ble_eq_true rfl) rfl rfl d_MessageCoderModel_ends_111 (fs1 := [.int (nI ((thC y a1 a2 a3 a4))), .ref (m + 1), .int (nI 8), .int (nI (sv)), .int rs, .ref (m + 2), .ref (m + 3), .ref (m + 4), .ref (m + 5), .ref (m + 6), .int (nI (bm)), .ref (m + 7), .int (nI (dm)), .ref (m + 8), .ref (m + 9), .int (nI (lz)), .ref (m + 10), .int (nI (ty)), .int (nI (he)), .int er, .int ea, .int fa, .ref (m + 11), .int (nI (cn))]) rfl ?_
                    generalize e5 : xup F4 (m) (.inl (10, [.int (nI ((thC y a1 a2 a3 a4))), .ref (m + 1), .int (nI 8), .int (nI (sv)), .int rs, .ref (m + 2), .ref (m + 3), .ref (m + 4), .ref (m + 5), .ref (m + 6), .int (nI (bm)), .ref (m + 7), .int (nI (dm)), .ref (m + 8), .ref (m + 9), .int (nI (lz)), .ref (m + 10), .int (nI (ty)), .int (nI (he)), .int er, .int ea, .int fa, .ref (m + 11), .int (nI (cn))])) = F5
                    have o0 : F5 (m) = some (.inl (10, [.int (nI ((thC y a1 a2 a3 a4))), .ref (m + 1), .int (nI 8), .int (nI (sv)), .int rs, .ref (m + 2), .ref (m + 3), .ref (m + 4), .ref (m + 5), .ref (m + 6), .int (nI (bm)), .ref (m + 7), .int (nI (dm)), .ref (m + 8), .ref (m + 9), .int (nI (lz)), .ref (m + 10), .int (nI (ty)), .int (nI (he)), .int er, .int ea, .int fa, .ref (m + 11), .int (nI (cn))])) := by rw [← e5]; exact xup_eq
                    have ga : F5 (m + 1) = some (.inr (0, 4730, fun b9 => .int (nI ((shG g 7) b9)))) := by rw [← e5]; exact (xup_ne (by omega)).trans ga
                    have hag : ∀ a9 : Nat, (a9 < m ∨ m + 2 ≤ a9) → F5 a9 = F a9 := fun a9 q0 => by rw [← e5]; exact (xup_ne (by omega)).trans (hag a9 q0)
                    refine x_aload_n hC d_MessageCoderModel_ends_114 rfl rfl ?_
                    refine x_bipush hC d_MessageCoderModel_ends_115 (v := nI 10) (by decide) ?_
                    refine x_aload_n hC d_MessageCoderModel_ends_117 rfl rfl ?_
                    refine x_getf hC kf_MessageCoderModel_58 o0 rfl d_MessageCoderModel_ends_118 ?_
                    refine x_callV hC kv_MessageCoderModel_54 (c_MessageCoderModel_copies (o0 := o0) (ga := ga) (hf := by omega) (ht := by omega) (hft := by omega)) o0 rfl rfl (by decide) rfl rfl rfl (Nat.le_of_ble_eq_true rfl) (by decide) d_MessageCoderModel_ends_121 (fun r9 F9 z9 hp9 => ?_)
                    obtain ⟨rfl, h9c, j0, j1, hag9⟩ := hp9
                    rw [h9c]
                    clear h9c z9
                    generalize F9 = F6 at *
                    have o0 : F6 (m) = some (.inl (10, [.int (nI ((thC y a1 a2 a3 a4))), .ref (m + 1), .int (nI 8), .int (nI (sv)), .int rs, .ref (m + 2), .ref (m + 3), .ref (m + 4), .ref (m + 5), .ref (m + 6), .int (nI (bm)), .ref (m + 7), .int (nI (dm)), .ref (m + 8), .ref (m + 9), .int (nI (lz)), .ref (m + 10), .int (nI (ty)), .int (nI (he)), .int er, .int ea, .int fa, .ref (m + 11), .int (nI (cn))])) := j0
                    have ga : F6 (m + 1) = some (.inr (0, 4730, fun b9 => .int (nI ((cpyR (shG g 7) 10 8) b9)))) := j1
                    have hag : ∀ a9 : Nat, (a9 < m ∨ m + 2 ≤ a9) → F6 a9 = F a9 := fun a9 q0 => (hag9 a9 (by omega)).trans (hag a9 q0)
                    have hg_121 := hag9
                    clear hag9
                    refine x_aload_n hC d_MessageCoderModel_ends_124 rfl rfl ?_
                    refine x_getf hC kf_MessageCoderModel_61 o0 rfl d_MessageCoderModel_ends_125 ?_
                    exact hret _ _ _ _ _ _ _ d_MessageCoderModel_ends_128 (by decide) (by decide) rfl (⟨congrArg (fun q => some (Value.int q)) ((if_pos c_47).symm), rfl, by rw [if_pos c_47]; unfold endC; rw [if_pos c_65]; exact o0, by rw [if_pos c_47]; unfold endG; rw [if_pos c_65]; exact ga, hag⟩)
                  · skip
                    refine x_aload_n hC d_MessageCoderModel_ends_78 rfl rfl ?_
                    refine x_iload hC d_MessageCoderModel_ends_79 rfl ?_
                    refine x_iconst hC d_MessageCoderModel_ends_81 (v := nI 1) (by decide) ?_
                    refine x_iadd hC d_MessageCoderModel_ends_82 (v := (nI (i + 2))) (x_addN (by omega)) ?_
                    refine x_iload hC d_MessageCoderModel_ends_83 rfl ?_
                    refine x_callV hC kv_MessageCoderModel_54 (c_MessageCoderModel_copies (o0 := o0) (ga := ga) (hf := by omega) (ht := by omega) (hft := by omega)) o0 rfl rfl (by decide) rfl rfl rfl (Nat.le_of_ble_eq_true rfl) (by decide) d_MessageCoderModel_ends_85 (fun r9 F9 z9 hp9 => ?_)
                    obtain ⟨rfl, h9c, j0, j1, hag9⟩ := hp9
                    rw [h9c]
                    clear h9c z9
                    generalize F9 = F7 at *
                    have o0 : F7 (m) = some (.inl (10, [.int (nI ((thC y a1 a2 a3 a4))), .ref (m + 1), .int (nI (ch)), .int (nI (sv)), .int rs, .ref (m + 2), .ref (m + 3), .ref (m + 4), .ref (m + 5), .ref (m + 6), .int (nI (bm)), .ref (m + 7), .int (nI (dm)), .ref (m + 8), .ref (m + 9), .int (nI (lz)), .ref (m + 10), .int (nI (ty)), .int (nI (he)), .int er, .int ea, .int fa, .ref (m + 11), .int (nI (cn))])) := j0
                    have ga : F7 (m + 1) = some (.inr (0, 4730, fun b9 => .int (nI ((cpyR (shG g i) (i + 2) (i + 1)) b9)))) := j1
                    have hag : ∀ a9 : Nat, (a9 < m ∨ m + 2 ≤ a9) → F7 a9 = F a9 := fun a9 q0 => (hag9 a9 (by omega)).trans (hag a9 q0)
                    have hg_85 := hag9
                    clear hag9
                    refine x_iinc hC d_MessageCoderModel_ends_88 rfl (v := (nI (i + 2))) (x_incN 1) (Nat.le_of_ble_eq_true rfl) (L1 := [some (.ref m), some (.int (nI (y))), some (.int (nI (a1))), some (.int (nI (a2))), some (.int (nI (a3))), some (.int (nI (a4))), some (.int (nI (i + 2)))]) rfl ?_
                    refine x_goto hC d_MessageCoderModel_ends_91 (tgt := 71) (by decide) ?_
                    exact ih_71 F7 (i + 1) o0 ga hag (by omega) (by omega)
              exact loop_71 (7 - 0 + 1) F1 (0) o0 ga hag (by omega) (by omega)
          · skip
            refine x_aload_n hC d_MessageCoderModel_ends_50 rfl rfl ?_
            refine x_bipush hC d_MessageCoderModel_ends_51 (v := nI 10) (by decide) ?_
            refine x_iconst hC d_MessageCoderModel_ends_53 (v := nI 0) (by decide) ?_
            refine x_callV hC kv_MessageCoderModel_54 (c_MessageCoderModel_copies (o0 := o0) (ga := ga) (hf := by omega) (ht := by omega) (hft := by omega)) o0 rfl rfl (by decide) rfl rfl rfl (Nat.le_of_ble_eq_true rfl) (by decide) d_MessageCoderModel_ends_54 (fun r9 F9 z9 hp9 => ?_)
            obtain ⟨rfl, h9c, j0, j1, hag9⟩ := hp9
            rw [h9c]
            clear h9c z9
            generalize F9 = F8 at *
            have o0 : F8 (m) = some (.inl (10, [.int (nI ((thC y a1 a2 a3 a4))), .ref (m + 1), .int (nI (ch)), .int (nI (sv)), .int rs, .ref (m + 2), .ref (m + 3), .ref (m + 4), .ref (m + 5), .ref (m + 6), .int (nI (bm)), .ref (m + 7), .int (nI (dm)), .ref (m + 8), .ref (m + 9), .int (nI (lz)), .ref (m + 10), .int (nI (ty)), .int (nI (he)), .int er, .int ea, .int fa, .ref (m + 11), .int (nI (cn))])) := j0
            have ga : F8 (m + 1) = some (.inr (0, 4730, fun b9 => .int (nI ((cpyR g 10 0) b9)))) := j1
            have hag : ∀ a9 : Nat, (a9 < m ∨ m + 2 ≤ a9) → F8 a9 = F a9 := fun a9 q0 => (hag9 a9 (by omega)).trans (hag a9 q0)
            have hg_54 := hag9
            clear hag9
            refine x_iconst hC d_MessageCoderModel_ends_57 (v := nI 0) (by decide) ?_
            exact hret _ _ _ _ _ _ _ d_MessageCoderModel_ends_58 (by decide) (by decide) rfl (⟨congrArg (fun q => some (Value.int q)) ((if_neg (by omega)).symm), rfl, by rw [if_neg (by omega)]; exact o0, by rw [if_neg (by omega)]; exact ga, hag⟩)
        · skip
          refine x_iload hC d_MessageCoderModel_ends_34 rfl ?_
          refine x_goto hC d_MessageCoderModel_ends_36 (tgt := 40) (by decide) ?_
          have hth := thC_le (y := y) h1 h2 h3 h4
          refine x_top (v := (nI (thC y a1 a2 a3 a4))) (congrArg nI (by unfold thC; rw [if_neg c_3, if_neg c_12, if_neg c_21, if_pos c_31])) ?_
          refine x_putf hC kf_MessageCoderModel_51 o0 (Nat.le_of_ble_eq_true rfl) rfl rfl d_MessageCoderModel_ends_40 (fs1 := [.int (nI (thC y a1 a2 a3 a4)), .ref (m + 1), .int (nI (ch)), .int (nI (sv)), .int rs, .ref (m + 2), .ref (m + 3), .ref (m + 4), .ref (m + 5), .ref (m + 6), .int (nI (bm)), .ref (m + 7), .int (nI (dm)), .ref (m + 8), .ref (m + 9), .int (nI (lz)), .ref (m + 10), .int (nI (ty)), .int (nI (he)), .int er, .int ea, .int fa, .ref (m + 11), .int (nI (cn))]) rfl ?_
          generalize e9 : xup F (m) (.inl (10, [.int (nI (thC y a1 a2 a3 a4)), .ref (m + 1), .int (nI (ch)), .int (nI (sv)), .int rs, .ref (m + 2), .ref (m + 3), .ref (m + 4), .ref (m + 5), .ref (m + 6), .int (nI (bm)), .ref (m + 7), .int (nI (dm)), .ref (m + 8), .ref (m + 9), .int (nI (lz)), .ref (m + 10), .int (nI (ty)), .int (nI (he)), .int er, .int ea, .int fa, .ref (m + 11), .int (nI (cn))])) = F9
          have o0 : F9 (m) = some (.inl (10, [.int (nI (thC y a1 a2 a3 a4)), .ref (m + 1), .int (nI (ch)), .int (nI (sv)), .int rs, .ref (m + 2), .ref (m + 3), .ref (m + 4), .ref (m + 5), .ref (m + 6), .int (nI (bm)), .ref (m + 7), .int (nI (dm)), .ref (m + 8), .ref (m + 9), .int (nI (lz)), .ref (m + 10), .int (nI (ty)), .int (nI (he)), .int er, .int ea, .int fa, .ref (m + 11), .int (nI (cn))])) := by rw [← e9]; exact xup_eq
          have ga : F9 (m + 1) = some (.inr (0, 4730, fun b9 => .int (nI (g b9)))) := by rw [← e9]; exact (xup_ne (by omega)).trans ga
          have hag : ∀ a9 : Nat, (a9 < m ∨ m + 2 ≤ a9) → F9 a9 = F a9 := fun a9 q0 => by rw [← e9]; exact (xup_ne (by omega)).trans (hag a9 q0)
          refine x_aload_n hC d_MessageCoderModel_ends_43 rfl rfl ?_
          refine x_getf hC kf_MessageCoderModel_51 o0 rfl d_MessageCoderModel_ends_44 ?_
          refine x_ifN_eq hC d_MessageCoderModel_ends_47 (tgt := 59) (by decide) (by omega) (fun c_47 => ?_) (fun c_47 => ?_)
          · skip
            refine x_aload_n hC d_MessageCoderModel_ends_59 rfl rfl ?_
            refine x_getf hC kf_MessageCoderModel_58 o0 rfl d_MessageCoderModel_ends_60 ?_
            refine x_bipush hC d_MessageCoderModel_ends_63 (v := nI 8) (by decide) ?_
            refine x_icmpN_ne hC d_MessageCoderModel_ends_65 (tgt := 104) (by decide) (by omega) (by omega) (fun c_65 => ?_) (fun c_65 => ?_)
            · skip
              refine x_aload_n hC d_MessageCoderModel_ends_104 rfl rfl ?_
              refine x_dup hC d_MessageCoderModel_ends_105 rfl ?_
              refine x_getf hC kf_MessageCoderModel_58 o0 rfl d_MessageCoderModel_ends_106 ?_
              refine x_iconst hC d_MessageCoderModel_ends_109 (v := nI 1) (by decide) ?_
              refine x_iadd hC d_MessageCoderModel_ends_110 (v := (nI (ch + 1))) (x_addN (by omega)) ?_
              refine x_putf hC kf_MessageCoderModel_58 o0 (Nat.le_of_ble_eq_true rfl) rfl rfl d_MessageCoderModel_ends_111 (fs1 := [.int (nI (thC y a1 a2 a3 a4)), .ref (m + 1), .int (nI (ch + 1)), .int (nI (sv)), .int rs, .ref (m + 2), .ref (m + 3), .ref (m + 4), .ref (m + 5), .ref (m + 6), .int (nI (bm)), .ref (m + 7), .int (nI (dm)), .ref (m + 8), .ref (m + 9), .int (nI (lz)), .ref (m + 10), .int (nI (ty)), .int (nI (he)), .int er, .int ea, .int fa, .ref (m + 11), .int (nI (cn))]) rfl ?_
              generalize e10 : xup F9 (m) (.inl (10, [.int (nI (thC y a1 a2 a3 a4)), .ref (m + 1), .int (nI (ch + 1)), .int (nI (sv)), .int rs, .ref (m + 2), .ref (m + 3), .ref (m + 4), .ref (m + 5), .ref (m + 6), .int (nI (bm)), .ref (m + 7), .int (nI (dm)), .ref (m + 8), .ref (m + 9), .int (nI (lz)), .ref (m + 10), .int (nI (ty)), .int (nI (he)), .int er, .int ea, .int fa, .ref (m + 11), .int (nI (cn))])) = F10
              have o0 : F10 (m) = some (.inl (10, [.int (nI (thC y a1 a2 a3 a4)), .ref (m + 1), .int (nI (ch + 1)), .int (nI (sv)), .int rs, .ref (m + 2), .ref (m + 3), .ref (m + 4), .ref (m + 5), .ref (m + 6), .int (nI (bm)), .ref (m + 7), .int (nI (dm)), .ref (m + 8), .ref (m + 9), .int (nI (lz)), .ref (m + 10), .int (nI (ty)), .int (nI (he)), .int er, .int ea, .int fa, .ref (m + 11), .int (nI (cn))])) := by rw [← e10]; exact xup_eq
              have ga : F10 (m + 1) = some (.inr (0, 4730, fun b9 => .int (nI (g b9)))) := by rw [← e10]; exact (xup_ne (by omega)).trans ga
              have hag : ∀ a9 : Nat, (a9 < m ∨ m + 2 ≤ a9) → F10 a9 = F a9 := fun a9 q0 => by rw [← e10]; exact (xup_ne (by omega)).trans (hag a9 q0)
              refine x_aload_n hC d_MessageCoderModel_ends_114 rfl rfl ?_
              refine x_bipush hC d_MessageCoderModel_ends_115 (v := nI 10) (by decide) ?_
              refine x_aload_n hC d_MessageCoderModel_ends_117 rfl rfl ?_
              refine x_getf hC kf_MessageCoderModel_58 o0 rfl d_MessageCoderModel_ends_118 ?_
              refine x_callV hC kv_MessageCoderModel_54 (c_MessageCoderModel_copies (o0 := o0) (ga := ga) (hf := by omega) (ht := by omega) (hft := by omega)) o0 rfl rfl (by decide) rfl rfl rfl (Nat.le_of_ble_eq_true rfl) (by decide) d_MessageCoderModel_ends_121 (fun r9 F9 z9 hp9 => ?_)
              obtain ⟨rfl, h9c, j0, j1, hag9⟩ := hp9
              rw [h9c]
              clear h9c z9
              generalize F9 = F11 at *
              have o0 : F11 (m) = some (.inl (10, [.int (nI ((thC y a1 a2 a3 a4))), .ref (m + 1), .int (nI ((ch + 1))), .int (nI (sv)), .int rs, .ref (m + 2), .ref (m + 3), .ref (m + 4), .ref (m + 5), .ref (m + 6), .int (nI (bm)), .ref (m + 7), .int (nI (dm)), .ref (m + 8), .ref (m + 9), .int (nI (lz)), .ref (m + 10), .int (nI (ty)), .int (nI (he)), .int er, .int ea, .int fa, .ref (m + 11), .int (nI (cn))])) := j0
              have ga : F11 (m + 1) = some (.inr (0, 4730, fun b9 => .int (nI ((cpyR g 10 (ch + 1)) b9)))) := j1
              have hag : ∀ a9 : Nat, (a9 < m ∨ m + 2 ≤ a9) → F11 a9 = F a9 := fun a9 q0 => (hag9 a9 (by omega)).trans (hag a9 q0)
              have hg_121 := hag9
              clear hag9
              refine x_aload_n hC d_MessageCoderModel_ends_124 rfl rfl ?_
              refine x_getf hC kf_MessageCoderModel_61 o0 rfl d_MessageCoderModel_ends_125 ?_
              exact hret _ _ _ _ _ _ _ d_MessageCoderModel_ends_128 (by decide) (by decide) rfl (⟨congrArg (fun q => some (Value.int q)) ((if_pos c_47).symm), rfl, by rw [if_pos c_47]; unfold endC; rw [if_neg c_65]; exact o0, by rw [if_pos c_47]; unfold endG; rw [if_neg c_65]; exact ga, hag⟩)
            · skip
              refine x_iconst hC d_MessageCoderModel_ends_68 (v := nI 1) (by decide) ?_
              refine x_istore hC d_MessageCoderModel_ends_69 (Nat.le_of_ble_eq_true rfl) (L1 := [some (.ref m), some (.int (nI (y))), some (.int (nI (a1))), some (.int (nI (a2))), some (.int (nI (a3))), some (.int (nI (a4))), some (.int (nI 1))]) rfl ?_
              have loop_71 : ∀ (m9 : Nat) (Fh71 : xF) (i : Nat), (Fh71 (m) = some (.inl (10, [.int (nI ((thC y a1 a2 a3 a4))), .ref (m + 1), .int (nI (ch)), .int (nI (sv)), .int rs, .ref (m + 2), .ref (m + 3), .ref (m + 4), .ref (m + 5), .ref (m + 6), .int (nI (bm)), .ref (m + 7), .int (nI (dm)), .ref (m + 8), .ref (m + 9), .int (nI (lz)), .ref (m + 10), .int (nI (ty)), .int (nI (he)), .int er, .int ea, .int fa, .ref (m + 11), .int (nI (cn))]))) → (Fh71 (m + 1) = some (.inr (0, 4730, fun b9 => .int (nI ((shG g i) b9))))) → (∀ a9 : Nat, (a9 < m ∨ m + 2 ≤ a9) → Fh71 a9 = F a9) → (i ≤ 7) → (7 - i < m9) → xX P Θ 71 [some (.ref m), some (.int (nI (y))), some (.int (nI (a1))), some (.int (nI (a2))), some (.int (nI (a3))), some (.int (nI (a4))), some (.int (nI (i + 1)))] [] Fh71 (z) 0 0 := by
                intro m9
                induction m9 with
                | zero => intros; omega
                | succ m9 ih_71 =>
                  intro Fh71 i o0 ga hag hi hm_71
                  refine x_iload hC d_MessageCoderModel_ends_71 rfl ?_
                  refine x_bipush hC d_MessageCoderModel_ends_73 (v := nI 8) (by decide) ?_
                  refine x_icmpN_ge hC d_MessageCoderModel_ends_75 (tgt := 94) (by decide) (by omega) (by omega) (fun c_75 => ?_) (fun c_75 => ?_)
                  · skip
                    obtain rfl : i = 7 := by omega
                    refine x_aload_n hC d_MessageCoderModel_ends_94 rfl rfl ?_
                    refine x_dup hC d_MessageCoderModel_ends_95 rfl ?_
                    refine x_getf hC kf_MessageCoderModel_58 o0 rfl d_MessageCoderModel_ends_96 ?_
                    refine x_iconst hC d_MessageCoderModel_ends_99 (v := nI 1) (by decide) ?_
                    refine x_isub hC d_MessageCoderModel_ends_100 (v := (nI ((ch) - 1))) (pk_sub (by omega)) ?_
                    refine x_top (v := (nI (7))) (congrArg nI (by omega)) ?_
                    refine x_putf hC kf_MessageCoderModel_58 o0 (Nat.le_of_ble_eq_true rfl) rfl rfl d_MessageCoderModel_ends_101 (fs1 := [.int (nI ((thC y a1 a2 a3 a4))), .ref (m + 1), .int (nI 7), .int (nI (sv)), .int rs, .ref (m + 2), .ref (m + 3), .ref (m + 4), .ref (m + 5), .ref (m + 6), .int (nI (bm)), .ref (m + 7), .int (nI (dm)), .ref (m + 8), .ref (m + 9), .int (nI (lz)), .ref (m + 10), .int (nI (ty)), .int (nI (he)), .int er, .int ea, .int fa, .ref (m + 11), .int (nI (cn))]) rfl ?_
                    generalize e12 : xup Fh71 (m) (.inl (10, [.int (nI ((thC y a1 a2 a3 a4))), .ref (m + 1), .int (nI 7), .int (nI (sv)), .int rs, .ref (m + 2), .ref (m + 3), .ref (m + 4), .ref (m + 5), .ref (m + 6), .int (nI (bm)), .ref (m + 7), .int (nI (dm)), .ref (m + 8), .ref (m + 9), .int (nI (lz)), .ref (m + 10), .int (nI (ty)), .int (nI (he)), .int er, .int ea, .int fa, .ref (m + 11), .int (nI (cn))])) = F12
                    have o0 : F12 (m) = some (.inl (10, [.int (nI ((thC y a1 a2 a3 a4))), .ref (m + 1), .int (nI 7), .int (nI (sv)), .int rs, .ref (m + 2), .ref (m + 3), .ref (m + 4), .ref (m + 5), .ref (m + 6), .int (nI (bm)), .ref (m + 7), .int (nI (dm)), .ref (m + 8), .ref (m + 9), .int (nI (lz)), .ref (m + 10), .int (nI (ty)), .int (nI (he)), .int er, .int ea, .int fa, .ref (m + 11), .int (nI (cn))])) := by rw [← e12]; exact xup_eq
                    have ga : F12 (m + 1) = some (.inr (0, 4730, fun b9 => .int (nI ((shG g 7) b9)))) := by rw [← e12]; exact (xup_ne (by omega)).trans ga
                    have hag : ∀ a9 : Nat, (a9 < m ∨ m + 2 ≤ a9) → F12 a9 = F a9 := fun a9 q0 => by rw [← e12]; exact (xup_ne (by omega)).trans (hag a9 q0)
                    refine x_aload_n hC d_MessageCoderModel_ends_104 rfl rfl ?_
                    refine x_dup hC d_MessageCoderModel_ends_105 rfl ?_
                    refine x_getf hC kf_MessageCoderModel_58 o0 rfl d_MessageCoderModel_ends_106 ?_
                    refine x_iconst hC d_MessageCoderModel_ends_109 (v := nI 1) (by decide) ?_
                    refine x_iadd hC d_MessageCoderModel_ends_110 (v := (nI (8))) (x_addN (by omega)) ?_
                    refine x_putf hC kf_MessageCoderModel_58 o0 (Nat.le_of_ble_eq_true rfl) rfl rfl d_MessageCoderModel_ends_111 (fs1 := [.int (nI ((thC y a1 a2 a3 a4))), .ref (m + 1), .int (nI 8), .int (nI (sv)), .int rs, .ref (m + 2), .ref (m + 3), .ref (m + 4), .ref (m + 5), .ref (m + 6), .int (nI (bm)), .ref (m + 7), .int (nI (dm)), .ref (m + 8), .ref (m + 9), .int (nI (lz)), .ref (m + 10), .int (nI (ty)), .int (nI (he)), .int er, .int ea, .int fa, .ref (m + 11), .int (nI (cn))]) rfl ?_
                    generalize e13 : xup F12 (m) (.inl (10, [.int (nI ((thC y a1 a2 a3 a4))), .ref (m + 1), .int (nI 8), .int (nI (sv)), .int rs, .ref (m + 2), .ref (m + 3), .ref (m + 4), .ref (m + 5), .ref (m + 6), .int (nI (bm)), .ref (m + 7), .int (nI (dm)), .ref (m + 8), .ref (m + 9), .int (nI (lz)), .ref (m + 10), .int (nI (ty)), .int (nI (he)), .int er, .int ea, .int fa, .ref (m + 11), .int (nI (cn))])) = F13
                    have o0 : F13 (m) = some (.inl (10, [.int (nI ((thC y a1 a2 a3 a4))), .ref (m + 1), .int (nI 8), .int (nI (sv)), .int rs, .ref (m + 2), .ref (m + 3), .ref (m + 4), .ref (m + 5), .ref (m + 6), .int (nI (bm)), .ref (m + 7), .int (nI (dm)), .ref (m + 8), .ref (m + 9), .int (nI (lz)), .ref (m + 10), .int (nI (ty)), .int (nI (he)), .int er, .int ea, .int fa, .ref (m + 11), .int (nI (cn))])) := by rw [← e13]; exact xup_eq
                    have ga : F13 (m + 1) = some (.inr (0, 4730, fun b9 => .int (nI ((shG g 7) b9)))) := by rw [← e13]; exact (xup_ne (by omega)).trans ga
                    have hag : ∀ a9 : Nat, (a9 < m ∨ m + 2 ≤ a9) → F13 a9 = F a9 := fun a9 q0 => by rw [← e13]; exact (xup_ne (by omega)).trans (hag a9 q0)
                    refine x_aload_n hC d_MessageCoderModel_ends_114 rfl rfl ?_
                    refine x_bipush hC d_MessageCoderModel_ends_115 (v := nI 10) (by decide) ?_
                    refine x_aload_n hC d_MessageCoderModel_ends_117 rfl rfl ?_
                    refine x_getf hC kf_MessageCoderModel_58 o0 rfl d_MessageCoderModel_ends_118 ?_
                    refine x_callV hC kv_MessageCoderModel_54 (c_MessageCoderModel_copies (o0 := o0) (ga := ga) (hf := by omega) (ht := by omega) (hft := by omega)) o0 rfl rfl (by decide) rfl rfl rfl (Nat.le_of_ble_eq_true rfl) (by decide) d_MessageCoderModel_ends_121 (fun r9 F9 z9 hp9 => ?_)
                    obtain ⟨rfl, h9c, j0, j1, hag9⟩ := hp9
                    rw [h9c]
                    clear h9c z9
                    generalize F9 = F14 at *
                    have o0 : F14 (m) = some (.inl (10, [.int (nI ((thC y a1 a2 a3 a4))), .ref (m + 1), .int (nI 8), .int (nI (sv)), .int rs, .ref (m + 2), .ref (m + 3), .ref (m + 4), .ref (m + 5), .ref (m + 6), .int (nI (bm)), .ref (m + 7), .int (nI (dm)), .ref (m + 8), .ref (m + 9), .int (nI (lz)), .ref (m + 10), .int (nI (ty)), .int (nI (he)), .int er, .int ea, .int fa, .ref (m + 11), .int (nI (cn))])) := j0
                    have ga : F14 (m + 1) = some (.inr (0, 4730, fun b9 => .int (nI ((cpyR (shG g 7) 10 8) b9)))) := j1
                    have hag : ∀ a9 : Nat, (a9 < m ∨ m + 2 ≤ a9) → F14 a9 = F a9 := fun a9 q0 => (hag9 a9 (by omega)).trans (hag a9 q0)
                    have hg_121 := hag9
                    clear hag9
                    refine x_aload_n hC d_MessageCoderModel_ends_124 rfl rfl ?_
                    refine x_getf hC kf_MessageCoderModel_61 o0 rfl d_MessageCoderModel_ends_125 ?_
                    exact hret _ _ _ _ _ _ _ d_MessageCoderModel_ends_128 (by decide) (by decide) rfl (⟨congrArg (fun q => some (Value.int q)) ((if_pos c_47).symm), rfl, by rw [if_pos c_47]; unfold endC; rw [if_pos c_65]; exact o0, by rw [if_pos c_47]; unfold endG; rw [if_pos c_65]; exact ga, hag⟩)
                  · skip
                    refine x_aload_n hC d_MessageCoderModel_ends_78 rfl rfl ?_
                    refine x_iload hC d_MessageCoderModel_ends_79 rfl ?_
                    refine x_iconst hC d_MessageCoderModel_ends_81 (v := nI 1) (by decide) ?_
                    refine x_iadd hC d_MessageCoderModel_ends_82 (v := (nI (i + 2))) (x_addN (by omega)) ?_
                    refine x_iload hC d_MessageCoderModel_ends_83 rfl ?_
                    refine x_callV hC kv_MessageCoderModel_54 (c_MessageCoderModel_copies (o0 := o0) (ga := ga) (hf := by omega) (ht := by omega) (hft := by omega)) o0 rfl rfl (by decide) rfl rfl rfl (Nat.le_of_ble_eq_true rfl) (by decide) d_MessageCoderModel_ends_85 (fun r9 F9 z9 hp9 => ?_)
                    obtain ⟨rfl, h9c, j0, j1, hag9⟩ := hp9
                    rw [h9c]
                    clear h9c z9
                    generalize F9 = F15 at *
                    have o0 : F15 (m) = some (.inl (10, [.int (nI ((thC y a1 a2 a3 a4))), .ref (m + 1), .int (nI (ch)), .int (nI (sv)), .int rs, .ref (m + 2), .ref (m + 3), .ref (m + 4), .ref (m + 5), .ref (m + 6), .int (nI (bm)), .ref (m + 7), .int (nI (dm)), .ref (m + 8), .ref (m + 9), .int (nI (lz)), .ref (m + 10), .int (nI (ty)), .int (nI (he)), .int er, .int ea, .int fa, .ref (m + 11), .int (nI (cn))])) := j0
                    have ga : F15 (m + 1) = some (.inr (0, 4730, fun b9 => .int (nI ((cpyR (shG g i) (i + 2) (i + 1)) b9)))) := j1
                    have hag : ∀ a9 : Nat, (a9 < m ∨ m + 2 ≤ a9) → F15 a9 = F a9 := fun a9 q0 => (hag9 a9 (by omega)).trans (hag a9 q0)
                    have hg_85 := hag9
                    clear hag9
                    refine x_iinc hC d_MessageCoderModel_ends_88 rfl (v := (nI (i + 2))) (x_incN 1) (Nat.le_of_ble_eq_true rfl) (L1 := [some (.ref m), some (.int (nI (y))), some (.int (nI (a1))), some (.int (nI (a2))), some (.int (nI (a3))), some (.int (nI (a4))), some (.int (nI (i + 2)))]) rfl ?_
                    refine x_goto hC d_MessageCoderModel_ends_91 (tgt := 71) (by decide) ?_
                    exact ih_71 F15 (i + 1) o0 ga hag (by omega) (by omega)
              exact loop_71 (7 - 0 + 1) F9 (0) o0 ga hag (by omega) (by omega)
          · skip
            refine x_aload_n hC d_MessageCoderModel_ends_50 rfl rfl ?_
            refine x_bipush hC d_MessageCoderModel_ends_51 (v := nI 10) (by decide) ?_
            refine x_iconst hC d_MessageCoderModel_ends_53 (v := nI 0) (by decide) ?_
            refine x_callV hC kv_MessageCoderModel_54 (c_MessageCoderModel_copies (o0 := o0) (ga := ga) (hf := by omega) (ht := by omega) (hft := by omega)) o0 rfl rfl (by decide) rfl rfl rfl (Nat.le_of_ble_eq_true rfl) (by decide) d_MessageCoderModel_ends_54 (fun r9 F9 z9 hp9 => ?_)
            obtain ⟨rfl, h9c, j0, j1, hag9⟩ := hp9
            rw [h9c]
            clear h9c z9
            generalize F9 = F16 at *
            have o0 : F16 (m) = some (.inl (10, [.int (nI ((thC y a1 a2 a3 a4))), .ref (m + 1), .int (nI (ch)), .int (nI (sv)), .int rs, .ref (m + 2), .ref (m + 3), .ref (m + 4), .ref (m + 5), .ref (m + 6), .int (nI (bm)), .ref (m + 7), .int (nI (dm)), .ref (m + 8), .ref (m + 9), .int (nI (lz)), .ref (m + 10), .int (nI (ty)), .int (nI (he)), .int er, .int ea, .int fa, .ref (m + 11), .int (nI (cn))])) := j0
            have ga : F16 (m + 1) = some (.inr (0, 4730, fun b9 => .int (nI ((cpyR g 10 0) b9)))) := j1
            have hag : ∀ a9 : Nat, (a9 < m ∨ m + 2 ≤ a9) → F16 a9 = F a9 := fun a9 q0 => (hag9 a9 (by omega)).trans (hag a9 q0)
            have hg_54 := hag9
            clear hag9
            refine x_iconst hC d_MessageCoderModel_ends_57 (v := nI 0) (by decide) ?_
            exact hret _ _ _ _ _ _ _ d_MessageCoderModel_ends_58 (by decide) (by decide) rfl (⟨congrArg (fun q => some (Value.int q)) ((if_neg (by omega)).symm), rfl, by rw [if_neg (by omega)]; exact o0, by rw [if_neg (by omega)]; exact ga, hag⟩)
      · skip
        refine x_iload hC d_MessageCoderModel_ends_24 rfl ?_
        refine x_goto hC d_MessageCoderModel_ends_26 (tgt := 40) (by decide) ?_
        have hth := thC_le (y := y) h1 h2 h3 h4
        refine x_top (v := (nI (thC y a1 a2 a3 a4))) (congrArg nI (by unfold thC; rw [if_neg c_3, if_neg c_12, if_pos c_21])) ?_
        refine x_putf hC kf_MessageCoderModel_51 o0 (Nat.le_of_ble_eq_true rfl) rfl rfl d_MessageCoderModel_ends_40 (fs1 := [.int (nI (thC y a1 a2 a3 a4)), .ref (m + 1), .int (nI (ch)), .int (nI (sv)), .int rs, .ref (m + 2), .ref (m + 3), .ref (m + 4), .ref (m + 5), .ref (m + 6), .int (nI (bm)), .ref (m + 7), .int (nI (dm)), .ref (m + 8), .ref (m + 9), .int (nI (lz)), .ref (m + 10), .int (nI (ty)), .int (nI (he)), .int er, .int ea, .int fa, .ref (m + 11), .int (nI (cn))]) rfl ?_
        generalize e17 : xup F (m) (.inl (10, [.int (nI (thC y a1 a2 a3 a4)), .ref (m + 1), .int (nI (ch)), .int (nI (sv)), .int rs, .ref (m + 2), .ref (m + 3), .ref (m + 4), .ref (m + 5), .ref (m + 6), .int (nI (bm)), .ref (m + 7), .int (nI (dm)), .ref (m + 8), .ref (m + 9), .int (nI (lz)), .ref (m + 10), .int (nI (ty)), .int (nI (he)), .int er, .int ea, .int fa, .ref (m + 11), .int (nI (cn))])) = F17
        have o0 : F17 (m) = some (.inl (10, [.int (nI (thC y a1 a2 a3 a4)), .ref (m + 1), .int (nI (ch)), .int (nI (sv)), .int rs, .ref (m + 2), .ref (m + 3), .ref (m + 4), .ref (m + 5), .ref (m + 6), .int (nI (bm)), .ref (m + 7), .int (nI (dm)), .ref (m + 8), .ref (m + 9), .int (nI (lz)), .ref (m + 10), .int (nI (ty)), .int (nI (he)), .int er, .int ea, .int fa, .ref (m + 11), .int (nI (cn))])) := by rw [← e17]; exact xup_eq
        have ga : F17 (m + 1) = some (.inr (0, 4730, fun b9 => .int (nI (g b9)))) := by rw [← e17]; exact (xup_ne (by omega)).trans ga
        have hag : ∀ a9 : Nat, (a9 < m ∨ m + 2 ≤ a9) → F17 a9 = F a9 := fun a9 q0 => by rw [← e17]; exact (xup_ne (by omega)).trans (hag a9 q0)
        refine x_aload_n hC d_MessageCoderModel_ends_43 rfl rfl ?_
        refine x_getf hC kf_MessageCoderModel_51 o0 rfl d_MessageCoderModel_ends_44 ?_
        refine x_ifN_eq hC d_MessageCoderModel_ends_47 (tgt := 59) (by decide) (by omega) (fun c_47 => ?_) (fun c_47 => ?_)
        · skip
          refine x_aload_n hC d_MessageCoderModel_ends_59 rfl rfl ?_
          refine x_getf hC kf_MessageCoderModel_58 o0 rfl d_MessageCoderModel_ends_60 ?_
          refine x_bipush hC d_MessageCoderModel_ends_63 (v := nI 8) (by decide) ?_
          refine x_icmpN_ne hC d_MessageCoderModel_ends_65 (tgt := 104) (by decide) (by omega) (by omega) (fun c_65 => ?_) (fun c_65 => ?_)
          · skip
            refine x_aload_n hC d_MessageCoderModel_ends_104 rfl rfl ?_
            refine x_dup hC d_MessageCoderModel_ends_105 rfl ?_
            refine x_getf hC kf_MessageCoderModel_58 o0 rfl d_MessageCoderModel_ends_106 ?_
            refine x_iconst hC d_MessageCoderModel_ends_109 (v := nI 1) (by decide) ?_
            refine x_iadd hC d_MessageCoderModel_ends_110 (v := (nI (ch + 1))) (x_addN (by omega)) ?_
            refine x_putf hC kf_MessageCoderModel_58 o0 (Nat.le_of_ble_eq_true rfl) rfl rfl d_MessageCoderModel_ends_111 (fs1 := [.int (nI (thC y a1 a2 a3 a4)), .ref (m + 1), .int (nI (ch + 1)), .int (nI (sv)), .int rs, .ref (m + 2), .ref (m + 3), .ref (m + 4), .ref (m + 5), .ref (m + 6), .int (nI (bm)), .ref (m + 7), .int (nI (dm)), .ref (m + 8), .ref (m + 9), .int (nI (lz)), .ref (m + 10), .int (nI (ty)), .int (nI (he)), .int er, .int ea, .int fa, .ref (m + 11), .int (nI (cn))]) rfl ?_
            generalize e18 : xup F17 (m) (.inl (10, [.int (nI (thC y a1 a2 a3 a4)), .ref (m + 1), .int (nI (ch + 1)), .int (nI (sv)), .int rs, .ref (m + 2), .ref (m + 3), .ref (m + 4), .ref (m + 5), .ref (m + 6), .int (nI (bm)), .ref (m + 7), .int (nI (dm)), .ref (m + 8), .ref (m + 9), .int (nI (lz)), .ref (m + 10), .int (nI (ty)), .int (nI (he)), .int er, .int ea, .int fa, .ref (m + 11), .int (nI (cn))])) = F18
            have o0 : F18 (m) = some (.inl (10, [.int (nI (thC y a1 a2 a3 a4)), .ref (m + 1), .int (nI (ch + 1)), .int (nI (sv)), .int rs, .ref (m + 2), .ref (m + 3), .ref (m + 4), .ref (m + 5), .ref (m + 6), .int (nI (bm)), .ref (m + 7), .int (nI (dm)), .ref (m + 8), .ref (m + 9), .int (nI (lz)), .ref (m + 10), .int (nI (ty)), .int (nI (he)), .int er, .int ea, .int fa, .ref (m + 11), .int (nI (cn))])) := by rw [← e18]; exact xup_eq
            have ga : F18 (m + 1) = some (.inr (0, 4730, fun b9 => .int (nI (g b9)))) := by rw [← e18]; exact (xup_ne (by omega)).trans ga
            have hag : ∀ a9 : Nat, (a9 < m ∨ m + 2 ≤ a9) → F18 a9 = F a9 := fun a9 q0 => by rw [← e18]; exact (xup_ne (by omega)).trans (hag a9 q0)
            refine x_aload_n hC d_MessageCoderModel_ends_114 rfl rfl ?_
            refine x_bipush hC d_MessageCoderModel_ends_115 (v := nI 10) (by decide) ?_
            refine x_aload_n hC d_MessageCoderModel_ends_117 rfl rfl ?_
            refine x_getf hC kf_MessageCoderModel_58 o0 rfl d_MessageCoderModel_ends_118 ?_
            refine x_callV hC kv_MessageCoderModel_54 (c_MessageCoderModel_copies (o0 := o0) (ga := ga) (hf := by omega) (ht := by omega) (hft := by omega)) o0 rfl rfl (by decide) rfl rfl rfl (Nat.le_of_ble_eq_true rfl) (by decide) d_MessageCoderModel_ends_121 (fun r9 F9 z9 hp9 => ?_)
            obtain ⟨rfl, h9c, j0, j1, hag9⟩ := hp9
            rw [h9c]
            clear h9c z9
            generalize F9 = F19 at *
            have o0 : F19 (m) = some (.inl (10, [.int (nI ((thC y a1 a2 a3 a4))), .ref (m + 1), .int (nI ((ch + 1))), .int (nI (sv)), .int rs, .ref (m + 2), .ref (m + 3), .ref (m + 4), .ref (m + 5), .ref (m + 6), .int (nI (bm)), .ref (m + 7), .int (nI (dm)), .ref (m + 8), .ref (m + 9), .int (nI (lz)), .ref (m + 10), .int (nI (ty)), .int (nI (he)), .int er, .int ea, .int fa, .ref (m + 11), .int (nI (cn))])) := j0
            have ga : F19 (m + 1) = some (.inr (0, 4730, fun b9 => .int (nI ((cpyR g 10 (ch + 1)) b9)))) := j1
            have hag : ∀ a9 : Nat, (a9 < m ∨ m + 2 ≤ a9) → F19 a9 = F a9 := fun a9 q0 => (hag9 a9 (by omega)).trans (hag a9 q0)
            have hg_121 := hag9
            clear hag9
            refine x_aload_n hC d_MessageCoderModel_ends_124 rfl rfl ?_
            refine x_getf hC kf_MessageCoderModel_61 o0 rfl d_MessageCoderModel_ends_125 ?_
            exact hret _ _ _ _ _ _ _ d_MessageCoderModel_ends_128 (by decide) (by decide) rfl (⟨congrArg (fun q => some (Value.int q)) ((if_pos c_47).symm), rfl, by rw [if_pos c_47]; unfold endC; rw [if_neg c_65]; exact o0, by rw [if_pos c_47]; unfold endG; rw [if_neg c_65]; exact ga, hag⟩)
          · skip
            refine x_iconst hC d_MessageCoderModel_ends_68 (v := nI 1) (by decide) ?_
            refine x_istore hC d_MessageCoderModel_ends_69 (Nat.le_of_ble_eq_true rfl) (L1 := [some (.ref m), some (.int (nI (y))), some (.int (nI (a1))), some (.int (nI (a2))), some (.int (nI (a3))), some (.int (nI (a4))), some (.int (nI 1))]) rfl ?_
            have loop_71 : ∀ (m9 : Nat) (Fh71 : xF) (i : Nat), (Fh71 (m) = some (.inl (10, [.int (nI ((thC y a1 a2 a3 a4))), .ref (m + 1), .int (nI (ch)), .int (nI (sv)), .int rs, .ref (m + 2), .ref (m + 3), .ref (m + 4), .ref (m + 5), .ref (m + 6), .int (nI (bm)), .ref (m + 7), .int (nI (dm)), .ref (m + 8), .ref (m + 9), .int (nI (lz)), .ref (m + 10), .int (nI (ty)), .int (nI (he)), .int er, .int ea, .int fa, .ref (m + 11), .int (nI (cn))]))) → (Fh71 (m + 1) = some (.inr (0, 4730, fun b9 => .int (nI ((shG g i) b9))))) → (∀ a9 : Nat, (a9 < m ∨ m + 2 ≤ a9) → Fh71 a9 = F a9) → (i ≤ 7) → (7 - i < m9) → xX P Θ 71 [some (.ref m), some (.int (nI (y))), some (.int (nI (a1))), some (.int (nI (a2))), some (.int (nI (a3))), some (.int (nI (a4))), some (.int (nI (i + 1)))] [] Fh71 (z) 0 0 := by
              intro m9
              induction m9 with
              | zero => intros; omega
              | succ m9 ih_71 =>
                intro Fh71 i o0 ga hag hi hm_71
                refine x_iload hC d_MessageCoderModel_ends_71 rfl ?_
                refine x_bipush hC d_MessageCoderModel_ends_73 (v := nI 8) (by decide) ?_
                refine x_icmpN_ge hC d_MessageCoderModel_ends_75 (tgt := 94) (by decide) (by omega) (by omega) (fun c_75 => ?_) (fun c_75 => ?_)
                · skip
                  obtain rfl : i = 7 := by omega
                  refine x_aload_n hC d_MessageCoderModel_ends_94 rfl rfl ?_
                  refine x_dup hC d_MessageCoderModel_ends_95 rfl ?_
                  refine x_getf hC kf_MessageCoderModel_58 o0 rfl d_MessageCoderModel_ends_96 ?_
                  refine x_iconst hC d_MessageCoderModel_ends_99 (v := nI 1) (by decide) ?_
                  refine x_isub hC d_MessageCoderModel_ends_100 (v := (nI ((ch) - 1))) (pk_sub (by omega)) ?_
                  refine x_top (v := (nI (7))) (congrArg nI (by omega)) ?_
                  refine x_putf hC kf_MessageCoderModel_58 o0 (Nat.le_of_ble_eq_true rfl) rfl rfl d_MessageCoderModel_ends_101 (fs1 := [.int (nI ((thC y a1 a2 a3 a4))), .ref (m + 1), .int (nI 7), .int (nI (sv)), .int rs, .ref (m + 2), .ref (m + 3), .ref (m + 4), .ref (m + 5), .ref (m + 6), .int (nI (bm)), .ref (m + 7), .int (nI (dm)), .ref (m + 8), .ref (m + 9), .int (nI (lz)), .ref (m + 10), .int (nI (ty)), .int (nI (he)), .int er, .int ea, .int fa, .ref (m + 11), .int (nI (cn))]) rfl ?_
                  generalize e20 : xup Fh71 (m) (.inl (10, [.int (nI ((thC y a1 a2 a3 a4))), .ref (m + 1), .int (nI 7), .int (nI (sv)), .int rs, .ref (m + 2), .ref (m + 3), .ref (m + 4), .ref (m + 5), .ref (m + 6), .int (nI (bm)), .ref (m + 7), .int (nI (dm)), .ref (m + 8), .ref (m + 9), .int (nI (lz)), .ref (m + 10), .int (nI (ty)), .int (nI (he)), .int er, .int ea, .int fa, .ref (m + 11), .int (nI (cn))])) = F20
                  have o0 : F20 (m) = some (.inl (10, [.int (nI ((thC y a1 a2 a3 a4))), .ref (m + 1), .int (nI 7), .int (nI (sv)), .int rs, .ref (m + 2), .ref (m + 3), .ref (m + 4), .ref (m + 5), .ref (m + 6), .int (nI (bm)), .ref (m + 7), .int (nI (dm)), .ref (m + 8), .ref (m + 9), .int (nI (lz)), .ref (m + 10), .int (nI (ty)), .int (nI (he)), .int er, .int ea, .int fa, .ref (m + 11), .int (nI (cn))])) := by rw [← e20]; exact xup_eq
                  have ga : F20 (m + 1) = some (.inr (0, 4730, fun b9 => .int (nI ((shG g 7) b9)))) := by rw [← e20]; exact (xup_ne (by omega)).trans ga
                  have hag : ∀ a9 : Nat, (a9 < m ∨ m + 2 ≤ a9) → F20 a9 = F a9 := fun a9 q0 => by rw [← e20]; exact (xup_ne (by omega)).trans (hag a9 q0)
                  refine x_aload_n hC d_MessageCoderModel_ends_104 rfl rfl ?_
                  refine x_dup hC d_MessageCoderModel_ends_105 rfl ?_
                  refine x_getf hC kf_MessageCoderModel_58 o0 rfl d_MessageCoderModel_ends_106 ?_
                  refine x_iconst hC d_MessageCoderModel_ends_109 (v := nI 1) (by decide) ?_
                  refine x_iadd hC d_MessageCoderModel_ends_110 (v := (nI (8))) (x_addN (by omega)) ?_
                  refine x_putf hC kf_MessageCoderModel_58 o0 (Nat.le_of_ble_eq_true rfl) rfl rfl d_MessageCoderModel_ends_111 (fs1 := [.int (nI ((thC y a1 a2 a3 a4))), .ref (m + 1), .int (nI 8), .int (nI (sv)), .int rs, .ref (m + 2), .ref (m + 3), .ref (m + 4), .ref (m + 5), .ref (m + 6), .int (nI (bm)), .ref (m + 7), .int (nI (dm)), .ref (m + 8), .ref (m + 9), .int (nI (lz)), .ref (m + 10), .int (nI (ty)), .int (nI (he)), .int er, .int ea, .int fa, .ref (m + 11), .int (nI (cn))]) rfl ?_
                  generalize e21 : xup F20 (m) (.inl (10, [.int (nI ((thC y a1 a2 a3 a4))), .ref (m + 1), .int (nI 8), .int (nI (sv)), .int rs, .ref (m + 2), .ref (m + 3), .ref (m + 4), .ref (m + 5), .ref (m + 6), .int (nI (bm)), .ref (m + 7), .int (nI (dm)), .ref (m + 8), .ref (m + 9), .int (nI (lz)), .ref (m + 10), .int (nI (ty)), .int (nI (he)), .int er, .int ea, .int fa, .ref (m + 11), .int (nI (cn))])) = F21
                  have o0 : F21 (m) = some (.inl (10, [.int (nI ((thC y a1 a2 a3 a4))), .ref (m + 1), .int (nI 8), .int (nI (sv)), .int rs, .ref (m + 2), .ref (m + 3), .ref (m + 4), .ref (m + 5), .ref (m + 6), .int (nI (bm)), .ref (m + 7), .int (nI (dm)), .ref (m + 8), .ref (m + 9), .int (nI (lz)), .ref (m + 10), .int (nI (ty)), .int (nI (he)), .int er, .int ea, .int fa, .ref (m + 11), .int (nI (cn))])) := by rw [← e21]; exact xup_eq
                  have ga : F21 (m + 1) = some (.inr (0, 4730, fun b9 => .int (nI ((shG g 7) b9)))) := by rw [← e21]; exact (xup_ne (by omega)).trans ga
                  have hag : ∀ a9 : Nat, (a9 < m ∨ m + 2 ≤ a9) → F21 a9 = F a9 := fun a9 q0 => by rw [← e21]; exact (xup_ne (by omega)).trans (hag a9 q0)
                  refine x_aload_n hC d_MessageCoderModel_ends_114 rfl rfl ?_
                  refine x_bipush hC d_MessageCoderModel_ends_115 (v := nI 10) (by decide) ?_
                  refine x_aload_n hC d_MessageCoderModel_ends_117 rfl rfl ?_
                  refine x_getf hC kf_MessageCoderModel_58 o0 rfl d_MessageCoderModel_ends_118 ?_
                  refine x_callV hC kv_MessageCoderModel_54 (c_MessageCoderModel_copies (o0 := o0) (ga := ga) (hf := by omega) (ht := by omega) (hft := by omega)) o0 rfl rfl (by decide) rfl rfl rfl (Nat.le_of_ble_eq_true rfl) (by decide) d_MessageCoderModel_ends_121 (fun r9 F9 z9 hp9 => ?_)
                  obtain ⟨rfl, h9c, j0, j1, hag9⟩ := hp9
                  rw [h9c]
                  clear h9c z9
                  generalize F9 = F22 at *
                  have o0 : F22 (m) = some (.inl (10, [.int (nI ((thC y a1 a2 a3 a4))), .ref (m + 1), .int (nI 8), .int (nI (sv)), .int rs, .ref (m + 2), .ref (m + 3), .ref (m + 4), .ref (m + 5), .ref (m + 6), .int (nI (bm)), .ref (m + 7), .int (nI (dm)), .ref (m + 8), .ref (m + 9), .int (nI (lz)), .ref (m + 10), .int (nI (ty)), .int (nI (he)), .int er, .int ea, .int fa, .ref (m + 11), .int (nI (cn))])) := j0
                  have ga : F22 (m + 1) = some (.inr (0, 4730, fun b9 => .int (nI ((cpyR (shG g 7) 10 8) b9)))) := j1
                  have hag : ∀ a9 : Nat, (a9 < m ∨ m + 2 ≤ a9) → F22 a9 = F a9 := fun a9 q0 => (hag9 a9 (by omega)).trans (hag a9 q0)
                  have hg_121 := hag9
                  clear hag9
                  refine x_aload_n hC d_MessageCoderModel_ends_124 rfl rfl ?_
                  refine x_getf hC kf_MessageCoderModel_61 o0 rfl d_MessageCoderModel_ends_125 ?_
                  exact hret _ _ _ _ _ _ _ d_MessageCoderModel_ends_128 (by decide) (by decide) rfl (⟨congrArg (fun q => some (Value.int q)) ((if_pos c_47).symm), rfl, by rw [if_pos c_47]; unfold endC; rw [if_pos c_65]; exact o0, by rw [if_pos c_47]; unfold endG; rw [if_pos c_65]; exact ga, hag⟩)
                · skip
                  refine x_aload_n hC d_MessageCoderModel_ends_78 rfl rfl ?_
                  refine x_iload hC d_MessageCoderModel_ends_79 rfl ?_
                  refine x_iconst hC d_MessageCoderModel_ends_81 (v := nI 1) (by decide) ?_
                  refine x_iadd hC d_MessageCoderModel_ends_82 (v := (nI (i + 2))) (x_addN (by omega)) ?_
                  refine x_iload hC d_MessageCoderModel_ends_83 rfl ?_
                  refine x_callV hC kv_MessageCoderModel_54 (c_MessageCoderModel_copies (o0 := o0) (ga := ga) (hf := by omega) (ht := by omega) (hft := by omega)) o0 rfl rfl (by decide) rfl rfl rfl (Nat.le_of_ble_eq_true rfl) (by decide) d_MessageCoderModel_ends_85 (fun r9 F9 z9 hp9 => ?_)
                  obtain ⟨rfl, h9c, j0, j1, hag9⟩ := hp9
                  rw [h9c]
                  clear h9c z9
                  generalize F9 = F23 at *
                  have o0 : F23 (m) = some (.inl (10, [.int (nI ((thC y a1 a2 a3 a4))), .ref (m + 1), .int (nI (ch)), .int (nI (sv)), .int rs, .ref (m + 2), .ref (m + 3), .ref (m + 4), .ref (m + 5), .ref (m + 6), .int (nI (bm)), .ref (m + 7), .int (nI (dm)), .ref (m + 8), .ref (m + 9), .int (nI (lz)), .ref (m + 10), .int (nI (ty)), .int (nI (he)), .int er, .int ea, .int fa, .ref (m + 11), .int (nI (cn))])) := j0
                  have ga : F23 (m + 1) = some (.inr (0, 4730, fun b9 => .int (nI ((cpyR (shG g i) (i + 2) (i + 1)) b9)))) := j1
                  have hag : ∀ a9 : Nat, (a9 < m ∨ m + 2 ≤ a9) → F23 a9 = F a9 := fun a9 q0 => (hag9 a9 (by omega)).trans (hag a9 q0)
                  have hg_85 := hag9
                  clear hag9
                  refine x_iinc hC d_MessageCoderModel_ends_88 rfl (v := (nI (i + 2))) (x_incN 1) (Nat.le_of_ble_eq_true rfl) (L1 := [some (.ref m), some (.int (nI (y))), some (.int (nI (a1))), some (.int (nI (a2))), some (.int (nI (a3))), some (.int (nI (a4))), some (.int (nI (i + 2)))]) rfl ?_
                  refine x_goto hC d_MessageCoderModel_ends_91 (tgt := 71) (by decide) ?_
                  exact ih_71 F23 (i + 1) o0 ga hag (by omega) (by omega)
            exact loop_71 (7 - 0 + 1) F17 (0) o0 ga hag (by omega) (by omega)
        · skip
          refine x_aload_n hC d_MessageCoderModel_ends_50 rfl rfl ?_
          refine x_bipush hC d_MessageCoderModel_ends_51 (v := nI 10) (by decide) ?_
          refine x_iconst hC d_MessageCoderModel_ends_53 (v := nI 0) (by decide) ?_
          refine x_callV hC kv_MessageCoderModel_54 (c_MessageCoderModel_copies (o0 := o0) (ga := ga) (hf := by omega) (ht := by omega) (hft := by omega)) o0 rfl rfl (by decide) rfl rfl rfl (Nat.le_of_ble_eq_true rfl) (by decide) d_MessageCoderModel_ends_54 (fun r9 F9 z9 hp9 => ?_)
          obtain ⟨rfl, h9c, j0, j1, hag9⟩ := hp9
          rw [h9c]
          clear h9c z9
          generalize F9 = F24 at *
          have o0 : F24 (m) = some (.inl (10, [.int (nI ((thC y a1 a2 a3 a4))), .ref (m + 1), .int (nI (ch)), .int (nI (sv)), .int rs, .ref (m + 2), .ref (m + 3), .ref (m + 4), .ref (m + 5), .ref (m + 6), .int (nI (bm)), .ref (m + 7), .int (nI (dm)), .ref (m + 8), .ref (m + 9), .int (nI (lz)), .ref (m + 10), .int (nI (ty)), .int (nI (he)), .int er, .int ea, .int fa, .ref (m + 11), .int (nI (cn))])) := j0
          have ga : F24 (m + 1) = some (.inr (0, 4730, fun b9 => .int (nI ((cpyR g 10 0) b9)))) := j1
          have hag : ∀ a9 : Nat, (a9 < m ∨ m + 2 ≤ a9) → F24 a9 = F a9 := fun a9 q0 => (hag9 a9 (by omega)).trans (hag a9 q0)
          have hg_54 := hag9
          clear hag9
          refine x_iconst hC d_MessageCoderModel_ends_57 (v := nI 0) (by decide) ?_
          exact hret _ _ _ _ _ _ _ d_MessageCoderModel_ends_58 (by decide) (by decide) rfl (⟨congrArg (fun q => some (Value.int q)) ((if_neg (by omega)).symm), rfl, by rw [if_neg (by omega)]; exact o0, by rw [if_neg (by omega)]; exact ga, hag⟩)
    · skip
      refine x_iload_n hC d_MessageCoderModel_ends_15 rfl rfl ?_
      refine x_goto hC d_MessageCoderModel_ends_16 (tgt := 40) (by decide) ?_
      have hth := thC_le (y := y) h1 h2 h3 h4
      refine x_top (v := (nI (thC y a1 a2 a3 a4))) (congrArg nI (by unfold thC; rw [if_neg c_3, if_pos c_12])) ?_
      refine x_putf hC kf_MessageCoderModel_51 o0 (Nat.le_of_ble_eq_true rfl) rfl rfl d_MessageCoderModel_ends_40 (fs1 := [.int (nI (thC y a1 a2 a3 a4)), .ref (m + 1), .int (nI (ch)), .int (nI (sv)), .int rs, .ref (m + 2), .ref (m + 3), .ref (m + 4), .ref (m + 5), .ref (m + 6), .int (nI (bm)), .ref (m + 7), .int (nI (dm)), .ref (m + 8), .ref (m + 9), .int (nI (lz)), .ref (m + 10), .int (nI (ty)), .int (nI (he)), .int er, .int ea, .int fa, .ref (m + 11), .int (nI (cn))]) rfl ?_
      generalize e25 : xup F (m) (.inl (10, [.int (nI (thC y a1 a2 a3 a4)), .ref (m + 1), .int (nI (ch)), .int (nI (sv)), .int rs, .ref (m + 2), .ref (m + 3), .ref (m + 4), .ref (m + 5), .ref (m + 6), .int (nI (bm)), .ref (m + 7), .int (nI (dm)), .ref (m + 8), .ref (m + 9), .int (nI (lz)), .ref (m + 10), .int (nI (ty)), .int (nI (he)), .int er, .int ea, .int fa, .ref (m + 11), .int (nI (cn))])) = F25
      have o0 : F25 (m) = some (.inl (10, [.int (nI (thC y a1 a2 a3 a4)), .ref (m + 1), .int (nI (ch)), .int (nI (sv)), .int rs, .ref (m + 2), .ref (m + 3), .ref (m + 4), .ref (m + 5), .ref (m + 6), .int (nI (bm)), .ref (m + 7), .int (nI (dm)), .ref (m + 8), .ref (m + 9), .int (nI (lz)), .ref (m + 10), .int (nI (ty)), .int (nI (he)), .int er, .int ea, .int fa, .ref (m + 11), .int (nI (cn))])) := by rw [← e25]; exact xup_eq
      have ga : F25 (m + 1) = some (.inr (0, 4730, fun b9 => .int (nI (g b9)))) := by rw [← e25]; exact (xup_ne (by omega)).trans ga
      have hag : ∀ a9 : Nat, (a9 < m ∨ m + 2 ≤ a9) → F25 a9 = F a9 := fun a9 q0 => by rw [← e25]; exact (xup_ne (by omega)).trans (hag a9 q0)
      refine x_aload_n hC d_MessageCoderModel_ends_43 rfl rfl ?_
      refine x_getf hC kf_MessageCoderModel_51 o0 rfl d_MessageCoderModel_ends_44 ?_
      refine x_ifN_eq hC d_MessageCoderModel_ends_47 (tgt := 59) (by decide) (by omega) (fun c_47 => ?_) (fun c_47 => ?_)
      · skip
        refine x_aload_n hC d_MessageCoderModel_ends_59 rfl rfl ?_
        refine x_getf hC kf_MessageCoderModel_58 o0 rfl d_MessageCoderModel_ends_60 ?_
        refine x_bipush hC d_MessageCoderModel_ends_63 (v := nI 8) (by decide) ?_
        refine x_icmpN_ne hC d_MessageCoderModel_ends_65 (tgt := 104) (by decide) (by omega) (by omega) (fun c_65 => ?_) (fun c_65 => ?_)
        · skip
          refine x_aload_n hC d_MessageCoderModel_ends_104 rfl rfl ?_
          refine x_dup hC d_MessageCoderModel_ends_105 rfl ?_
          refine x_getf hC kf_MessageCoderModel_58 o0 rfl d_MessageCoderModel_ends_106 ?_
          refine x_iconst hC d_MessageCoderModel_ends_109 (v := nI 1) (by decide) ?_
          refine x_iadd hC d_MessageCoderModel_ends_110 (v := (nI (ch + 1))) (x_addN (by omega)) ?_
          refine x_putf hC kf_MessageCoderModel_58 o0 (Nat.le_of_ble_eq_true rfl) rfl rfl d_MessageCoderModel_ends_111 (fs1 := [.int (nI (thC y a1 a2 a3 a4)), .ref (m + 1), .int (nI (ch + 1)), .int (nI (sv)), .int rs, .ref (m + 2), .ref (m + 3), .ref (m + 4), .ref (m + 5), .ref (m + 6), .int (nI (bm)), .ref (m + 7), .int (nI (dm)), .ref (m + 8), .ref (m + 9), .int (nI (lz)), .ref (m + 10), .int (nI (ty)), .int (nI (he)), .int er, .int ea, .int fa, .ref (m + 11), .int (nI (cn))]) rfl ?_
          generalize e26 : xup F25 (m) (.inl (10, [.int (nI (thC y a1 a2 a3 a4)), .ref (m + 1), .int (nI (ch + 1)), .int (nI (sv)), .int rs, .ref (m + 2), .ref (m + 3), .ref (m + 4), .ref (m + 5), .ref (m + 6), .int (nI (bm)), .ref (m + 7), .int (nI (dm)), .ref (m + 8), .ref (m + 9), .int (nI (lz)), .ref (m + 10), .int (nI (ty)), .int (nI (he)), .int er, .int ea, .int fa, .ref (m + 11), .int (nI (cn))])) = F26
          have o0 : F26 (m) = some (.inl (10, [.int (nI (thC y a1 a2 a3 a4)), .ref (m + 1), .int (nI (ch + 1)), .int (nI (sv)), .int rs, .ref (m + 2), .ref (m + 3), .ref (m + 4), .ref (m + 5), .ref (m + 6), .int (nI (bm)), .ref (m + 7), .int (nI (dm)), .ref (m + 8), .ref (m + 9), .int (nI (lz)), .ref (m + 10), .int (nI (ty)), .int (nI (he)), .int er, .int ea, .int fa, .ref (m + 11), .int (nI (cn))])) := by rw [← e26]; exact xup_eq
          have ga : F26 (m + 1) = some (.inr (0, 4730, fun b9 => .int (nI (g b9)))) := by rw [← e26]; exact (xup_ne (by omega)).trans ga
          have hag : ∀ a9 : Nat, (a9 < m ∨ m + 2 ≤ a9) → F26 a9 = F a9 := fun a9 q0 => by rw [← e26]; exact (xup_ne (by omega)).trans (hag a9 q0)
          refine x_aload_n hC d_MessageCoderModel_ends_114 rfl rfl ?_
          refine x_bipush hC d_MessageCoderModel_ends_115 (v := nI 10) (by decide) ?_
          refine x_aload_n hC d_MessageCoderModel_ends_117 rfl rfl ?_
          refine x_getf hC kf_MessageCoderModel_58 o0 rfl d_MessageCoderModel_ends_118 ?_
          refine x_callV hC kv_MessageCoderModel_54 (c_MessageCoderModel_copies (o0 := o0) (ga := ga) (hf := by omega) (ht := by omega) (hft := by omega)) o0 rfl rfl (by decide) rfl rfl rfl (Nat.le_of_ble_eq_true rfl) (by decide) d_MessageCoderModel_ends_121 (fun r9 F9 z9 hp9 => ?_)
          obtain ⟨rfl, h9c, j0, j1, hag9⟩ := hp9
          rw [h9c]
          clear h9c z9
          generalize F9 = F27 at *
          have o0 : F27 (m) = some (.inl (10, [.int (nI ((thC y a1 a2 a3 a4))), .ref (m + 1), .int (nI ((ch + 1))), .int (nI (sv)), .int rs, .ref (m + 2), .ref (m + 3), .ref (m + 4), .ref (m + 5), .ref (m + 6), .int (nI (bm)), .ref (m + 7), .int (nI (dm)), .ref (m + 8), .ref (m + 9), .int (nI (lz)), .ref (m + 10), .int (nI (ty)), .int (nI (he)), .int er, .int ea, .int fa, .ref (m + 11), .int (nI (cn))])) := j0
          have ga : F27 (m + 1) = some (.inr (0, 4730, fun b9 => .int (nI ((cpyR g 10 (ch + 1)) b9)))) := j1
          have hag : ∀ a9 : Nat, (a9 < m ∨ m + 2 ≤ a9) → F27 a9 = F a9 := fun a9 q0 => (hag9 a9 (by omega)).trans (hag a9 q0)
          have hg_121 := hag9
          clear hag9
          refine x_aload_n hC d_MessageCoderModel_ends_124 rfl rfl ?_
          refine x_getf hC kf_MessageCoderModel_61 o0 rfl d_MessageCoderModel_ends_125 ?_
          exact hret _ _ _ _ _ _ _ d_MessageCoderModel_ends_128 (by decide) (by decide) rfl (⟨congrArg (fun q => some (Value.int q)) ((if_pos c_47).symm), rfl, by rw [if_pos c_47]; unfold endC; rw [if_neg c_65]; exact o0, by rw [if_pos c_47]; unfold endG; rw [if_neg c_65]; exact ga, hag⟩)
        · skip
          refine x_iconst hC d_MessageCoderModel_ends_68 (v := nI 1) (by decide) ?_
          refine x_istore hC d_MessageCoderModel_ends_69 (Nat.le_of_ble_eq_true rfl) (L1 := [some (.ref m), some (.int (nI (y))), some (.int (nI (a1))), some (.int (nI (a2))), some (.int (nI (a3))), some (.int (nI (a4))), some (.int (nI 1))]) rfl ?_
          have loop_71 : ∀ (m9 : Nat) (Fh71 : xF) (i : Nat), (Fh71 (m) = some (.inl (10, [.int (nI ((thC y a1 a2 a3 a4))), .ref (m + 1), .int (nI (ch)), .int (nI (sv)), .int rs, .ref (m + 2), .ref (m + 3), .ref (m + 4), .ref (m + 5), .ref (m + 6), .int (nI (bm)), .ref (m + 7), .int (nI (dm)), .ref (m + 8), .ref (m + 9), .int (nI (lz)), .ref (m + 10), .int (nI (ty)), .int (nI (he)), .int er, .int ea, .int fa, .ref (m + 11), .int (nI (cn))]))) → (Fh71 (m + 1) = some (.inr (0, 4730, fun b9 => .int (nI ((shG g i) b9))))) → (∀ a9 : Nat, (a9 < m ∨ m + 2 ≤ a9) → Fh71 a9 = F a9) → (i ≤ 7) → (7 - i < m9) → xX P Θ 71 [some (.ref m), some (.int (nI (y))), some (.int (nI (a1))), some (.int (nI (a2))), some (.int (nI (a3))), some (.int (nI (a4))), some (.int (nI (i + 1)))] [] Fh71 (z) 0 0 := by
            intro m9
            induction m9 with
            | zero => intros; omega
            | succ m9 ih_71 =>
              intro Fh71 i o0 ga hag hi hm_71
              refine x_iload hC d_MessageCoderModel_ends_71 rfl ?_
              refine x_bipush hC d_MessageCoderModel_ends_73 (v := nI 8) (by decide) ?_
              refine x_icmpN_ge hC d_MessageCoderModel_ends_75 (tgt := 94) (by decide) (by omega) (by omega) (fun c_75 => ?_) (fun c_75 => ?_)
              · skip
                obtain rfl : i = 7 := by omega
                refine x_aload_n hC d_MessageCoderModel_ends_94 rfl rfl ?_
                refine x_dup hC d_MessageCoderModel_ends_95 rfl ?_
                refine x_getf hC kf_MessageCoderModel_58 o0 rfl d_MessageCoderModel_ends_96 ?_
                refine x_iconst hC d_MessageCoderModel_ends_99 (v := nI 1) (by decide) ?_
                refine x_isub hC d_MessageCoderModel_ends_100 (v := (nI ((ch) - 1))) (pk_sub (by omega)) ?_
                refine x_top (v := (nI (7))) (congrArg nI (by omega)) ?_
                refine x_putf hC kf_MessageCoderModel_58 o0 (Nat.le_of_ble_eq_true rfl) rfl rfl d_MessageCoderModel_ends_101 (fs1 := [.int (nI ((thC y a1 a2 a3 a4))), .ref (m + 1), .int (nI 7), .int (nI (sv)), .int rs, .ref (m + 2), .ref (m + 3), .ref (m + 4), .ref (m + 5), .ref (m + 6), .int (nI (bm)), .ref (m + 7), .int (nI (dm)), .ref (m + 8), .ref (m + 9), .int (nI (lz)), .ref (m + 10), .int (nI (ty)), .int (nI (he)), .int er, .int ea, .int fa, .ref (m + 11), .int (nI (cn))]) rfl ?_
                generalize e28 : xup Fh71 (m) (.inl (10, [.int (nI ((thC y a1 a2 a3 a4))), .ref (m + 1), .int (nI 7), .int (nI (sv)), .int rs, .ref (m + 2), .ref (m + 3), .ref (m + 4), .ref (m + 5), .ref (m + 6), .int (nI (bm)), .ref (m + 7), .int (nI (dm)), .ref (m + 8), .ref (m + 9), .int (nI (lz)), .ref (m + 10), .int (nI (ty)), .int (nI (he)), .int er, .int ea, .int fa, .ref (m + 11), .int (nI (cn))])) = F28
                have o0 : F28 (m) = some (.inl (10, [.int (nI ((thC y a1 a2 a3 a4))), .ref (m + 1), .int (nI 7), .int (nI (sv)), .int rs, .ref (m + 2), .ref (m + 3), .ref (m + 4), .ref (m + 5), .ref (m + 6), .int (nI (bm)), .ref (m + 7), .int (nI (dm)), .ref (m + 8), .ref (m + 9), .int (nI (lz)), .ref (m + 10), .int (nI (ty)), .int (nI (he)), .int er, .int ea, .int fa, .ref (m + 11), .int (nI (cn))])) := by rw [← e28]; exact xup_eq
                have ga : F28 (m + 1) = some (.inr (0, 4730, fun b9 => .int (nI ((shG g 7) b9)))) := by rw [← e28]; exact (xup_ne (by omega)).trans ga
                have hag : ∀ a9 : Nat, (a9 < m ∨ m + 2 ≤ a9) → F28 a9 = F a9 := fun a9 q0 => by rw [← e28]; exact (xup_ne (by omega)).trans (hag a9 q0)
                refine x_aload_n hC d_MessageCoderModel_ends_104 rfl rfl ?_
                refine x_dup hC d_MessageCoderModel_ends_105 rfl ?_
                refine x_getf hC kf_MessageCoderModel_58 o0 rfl d_MessageCoderModel_ends_106 ?_
                refine x_iconst hC d_MessageCoderModel_ends_109 (v := nI 1) (by decide) ?_
                refine x_iadd hC d_MessageCoderModel_ends_110 (v := (nI (8))) (x_addN (by omega)) ?_
                refine x_putf hC kf_MessageCoderModel_58 o0 (Nat.le_of_ble_eq_true rfl) rfl rfl d_MessageCoderModel_ends_111 (fs1 := [.int (nI ((thC y a1 a2 a3 a4))), .ref (m + 1), .int (nI 8), .int (nI (sv)), .int rs, .ref (m + 2), .ref (m + 3), .ref (m + 4), .ref (m + 5), .ref (m + 6), .int (nI (bm)), .ref (m + 7), .int (nI (dm)), .ref (m + 8), .ref (m + 9), .int (nI (lz)), .ref (m + 10), .int (nI (ty)), .int (nI (he)), .int er, .int ea, .int fa, .ref (m + 11), .int (nI (cn))]) rfl ?_
                generalize e29 : xup F28 (m) (.inl (10, [.int (nI ((thC y a1 a2 a3 a4))), .ref (m + 1), .int (nI 8), .int (nI (sv)), .int rs, .ref (m + 2), .ref (m + 3), .ref (m + 4), .ref (m + 5), .ref (m + 6), .int (nI (bm)), .ref (m + 7), .int (nI (dm)), .ref (m + 8), .ref (m + 9), .int (nI (lz)), .ref (m + 10), .int (nI (ty)), .int (nI (he)), .int er, .int ea, .int fa, .ref (m + 11), .int (nI (cn))])) = F29
                have o0 : F29 (m) = some (.inl (10, [.int (nI ((thC y a1 a2 a3 a4))), .ref (m + 1), .int (nI 8), .int (nI (sv)), .int rs, .ref (m + 2), .ref (m + 3), .ref (m + 4), .ref (m + 5), .ref (m + 6), .int (nI (bm)), .ref (m + 7), .int (nI (dm)), .ref (m + 8), .ref (m + 9), .int (nI (lz)), .ref (m + 10), .int (nI (ty)), .int (nI (he)), .int er, .int ea, .int fa, .ref (m + 11), .int (nI (cn))])) := by rw [← e29]; exact xup_eq
                have ga : F29 (m + 1) = some (.inr (0, 4730, fun b9 => .int (nI ((shG g 7) b9)))) := by rw [← e29]; exact (xup_ne (by omega)).trans ga
                have hag : ∀ a9 : Nat, (a9 < m ∨ m + 2 ≤ a9) → F29 a9 = F a9 := fun a9 q0 => by rw [← e29]; exact (xup_ne (by omega)).trans (hag a9 q0)
                refine x_aload_n hC d_MessageCoderModel_ends_114 rfl rfl ?_
                refine x_bipush hC d_MessageCoderModel_ends_115 (v := nI 10) (by decide) ?_
                refine x_aload_n hC d_MessageCoderModel_ends_117 rfl rfl ?_
                refine x_getf hC kf_MessageCoderModel_58 o0 rfl d_MessageCoderModel_ends_118 ?_
                refine x_callV hC kv_MessageCoderModel_54 (c_MessageCoderModel_copies (o0 := o0) (ga := ga) (hf := by omega) (ht := by omega) (hft := by omega)) o0 rfl rfl (by decide) rfl rfl rfl (Nat.le_of_ble_eq_true rfl) (by decide) d_MessageCoderModel_ends_121 (fun r9 F9 z9 hp9 => ?_)
                obtain ⟨rfl, h9c, j0, j1, hag9⟩ := hp9
                rw [h9c]
                clear h9c z9
                generalize F9 = F30 at *
                have o0 : F30 (m) = some (.inl (10, [.int (nI ((thC y a1 a2 a3 a4))), .ref (m + 1), .int (nI 8), .int (nI (sv)), .int rs, .ref (m + 2), .ref (m + 3), .ref (m + 4), .ref (m + 5), .ref (m + 6), .int (nI (bm)), .ref (m + 7), .int (nI (dm)), .ref (m + 8), .ref (m + 9), .int (nI (lz)), .ref (m + 10), .int (nI (ty)), .int (nI (he)), .int er, .int ea, .int fa, .ref (m + 11), .int (nI (cn))])) := j0
                have ga : F30 (m + 1) = some (.inr (0, 4730, fun b9 => .int (nI ((cpyR (shG g 7) 10 8) b9)))) := j1
                have hag : ∀ a9 : Nat, (a9 < m ∨ m + 2 ≤ a9) → F30 a9 = F a9 := fun a9 q0 => (hag9 a9 (by omega)).trans (hag a9 q0)
                have hg_121 := hag9
                clear hag9
                refine x_aload_n hC d_MessageCoderModel_ends_124 rfl rfl ?_
                refine x_getf hC kf_MessageCoderModel_61 o0 rfl d_MessageCoderModel_ends_125 ?_
                exact hret _ _ _ _ _ _ _ d_MessageCoderModel_ends_128 (by decide) (by decide) rfl (⟨congrArg (fun q => some (Value.int q)) ((if_pos c_47).symm), rfl, by rw [if_pos c_47]; unfold endC; rw [if_pos c_65]; exact o0, by rw [if_pos c_47]; unfold endG; rw [if_pos c_65]; exact ga, hag⟩)
              · skip
                refine x_aload_n hC d_MessageCoderModel_ends_78 rfl rfl ?_
                refine x_iload hC d_MessageCoderModel_ends_79 rfl ?_
                refine x_iconst hC d_MessageCoderModel_ends_81 (v := nI 1) (by decide) ?_
                refine x_iadd hC d_MessageCoderModel_ends_82 (v := (nI (i + 2))) (x_addN (by omega)) ?_
                refine x_iload hC d_MessageCoderModel_ends_83 rfl ?_
                refine x_callV hC kv_MessageCoderModel_54 (c_MessageCoderModel_copies (o0 := o0) (ga := ga) (hf := by omega) (ht := by omega) (hft := by omega)) o0 rfl rfl (by decide) rfl rfl rfl (Nat.le_of_ble_eq_true rfl) (by decide) d_MessageCoderModel_ends_85 (fun r9 F9 z9 hp9 => ?_)
                obtain ⟨rfl, h9c, j0, j1, hag9⟩ := hp9
                rw [h9c]
                clear h9c z9
                generalize F9 = F31 at *
                have o0 : F31 (m) = some (.inl (10, [.int (nI ((thC y a1 a2 a3 a4))), .ref (m + 1), .int (nI (ch)), .int (nI (sv)), .int rs, .ref (m + 2), .ref (m + 3), .ref (m + 4), .ref (m + 5), .ref (m + 6), .int (nI (bm)), .ref (m + 7), .int (nI (dm)), .ref (m + 8), .ref (m + 9), .int (nI (lz)), .ref (m + 10), .int (nI (ty)), .int (nI (he)), .int er, .int ea, .int fa, .ref (m + 11), .int (nI (cn))])) := j0
                have ga : F31 (m + 1) = some (.inr (0, 4730, fun b9 => .int (nI ((cpyR (shG g i) (i + 2) (i + 1)) b9)))) := j1
                have hag : ∀ a9 : Nat, (a9 < m ∨ m + 2 ≤ a9) → F31 a9 = F a9 := fun a9 q0 => (hag9 a9 (by omega)).trans (hag a9 q0)
                have hg_85 := hag9
                clear hag9
                refine x_iinc hC d_MessageCoderModel_ends_88 rfl (v := (nI (i + 2))) (x_incN 1) (Nat.le_of_ble_eq_true rfl) (L1 := [some (.ref m), some (.int (nI (y))), some (.int (nI (a1))), some (.int (nI (a2))), some (.int (nI (a3))), some (.int (nI (a4))), some (.int (nI (i + 2)))]) rfl ?_
                refine x_goto hC d_MessageCoderModel_ends_91 (tgt := 71) (by decide) ?_
                exact ih_71 F31 (i + 1) o0 ga hag (by omega) (by omega)
          exact loop_71 (7 - 0 + 1) F25 (0) o0 ga hag (by omega) (by omega)
      · skip
        refine x_aload_n hC d_MessageCoderModel_ends_50 rfl rfl ?_
        refine x_bipush hC d_MessageCoderModel_ends_51 (v := nI 10) (by decide) ?_
        refine x_iconst hC d_MessageCoderModel_ends_53 (v := nI 0) (by decide) ?_
        refine x_callV hC kv_MessageCoderModel_54 (c_MessageCoderModel_copies (o0 := o0) (ga := ga) (hf := by omega) (ht := by omega) (hft := by omega)) o0 rfl rfl (by decide) rfl rfl rfl (Nat.le_of_ble_eq_true rfl) (by decide) d_MessageCoderModel_ends_54 (fun r9 F9 z9 hp9 => ?_)
        obtain ⟨rfl, h9c, j0, j1, hag9⟩ := hp9
        rw [h9c]
        clear h9c z9
        generalize F9 = F32 at *
        have o0 : F32 (m) = some (.inl (10, [.int (nI ((thC y a1 a2 a3 a4))), .ref (m + 1), .int (nI (ch)), .int (nI (sv)), .int rs, .ref (m + 2), .ref (m + 3), .ref (m + 4), .ref (m + 5), .ref (m + 6), .int (nI (bm)), .ref (m + 7), .int (nI (dm)), .ref (m + 8), .ref (m + 9), .int (nI (lz)), .ref (m + 10), .int (nI (ty)), .int (nI (he)), .int er, .int ea, .int fa, .ref (m + 11), .int (nI (cn))])) := j0
        have ga : F32 (m + 1) = some (.inr (0, 4730, fun b9 => .int (nI ((cpyR g 10 0) b9)))) := j1
        have hag : ∀ a9 : Nat, (a9 < m ∨ m + 2 ≤ a9) → F32 a9 = F a9 := fun a9 q0 => (hag9 a9 (by omega)).trans (hag a9 q0)
        have hg_54 := hag9
        clear hag9
        refine x_iconst hC d_MessageCoderModel_ends_57 (v := nI 0) (by decide) ?_
        exact hret _ _ _ _ _ _ _ d_MessageCoderModel_ends_58 (by decide) (by decide) rfl (⟨congrArg (fun q => some (Value.int q)) ((if_neg (by omega)).symm), rfl, by rw [if_neg (by omega)]; exact o0, by rw [if_neg (by omega)]; exact ga, hag⟩)
  · skip
    refine x_iload_n hC d_MessageCoderModel_ends_6 rfl rfl ?_
    refine x_goto hC d_MessageCoderModel_ends_7 (tgt := 40) (by decide) ?_
    have hth := thC_le (y := y) h1 h2 h3 h4
    refine x_top (v := (nI (thC y a1 a2 a3 a4))) (congrArg nI (by unfold thC; rw [if_pos c_3])) ?_
    refine x_putf hC kf_MessageCoderModel_51 o0 (Nat.le_of_ble_eq_true rfl) rfl rfl d_MessageCoderModel_ends_40 (fs1 := [.int (nI (thC y a1 a2 a3 a4)), .ref (m + 1), .int (nI (ch)), .int (nI (sv)), .int rs, .ref (m + 2), .ref (m + 3), .ref (m + 4), .ref (m + 5), .ref (m + 6), .int (nI (bm)), .ref (m + 7), .int (nI (dm)), .ref (m + 8), .ref (m + 9), .int (nI (lz)), .ref (m + 10), .int (nI (ty)), .int (nI (he)), .int er, .int ea, .int fa, .ref (m + 11), .int (nI (cn))]) rfl ?_
    generalize e33 : xup F (m) (.inl (10, [.int (nI (thC y a1 a2 a3 a4)), .ref (m + 1), .int (nI (ch)), .int (nI (sv)), .int rs, .ref (m + 2), .ref (m + 3), .ref (m + 4), .ref (m + 5), .ref (m + 6), .int (nI (bm)), .ref (m + 7), .int (nI (dm)), .ref (m + 8), .ref (m + 9), .int (nI (lz)), .ref (m + 10), .int (nI (ty)), .int (nI (he)), .int er, .int ea, .int fa, .ref (m + 11), .int (nI (cn))])) = F33
    have o0 : F33 (m) = some (.inl (10, [.int (nI (thC y a1 a2 a3 a4)), .ref (m + 1), .int (nI (ch)), .int (nI (sv)), .int rs, .ref (m + 2), .ref (m + 3), .ref (m + 4), .ref (m + 5), .ref (m + 6), .int (nI (bm)), .ref (m + 7), .int (nI (dm)), .ref (m + 8), .ref (m + 9), .int (nI (lz)), .ref (m + 10), .int (nI (ty)), .int (nI (he)), .int er, .int ea, .int fa, .ref (m + 11), .int (nI (cn))])) := by rw [← e33]; exact xup_eq
    have ga : F33 (m + 1) = some (.inr (0, 4730, fun b9 => .int (nI (g b9)))) := by rw [← e33]; exact (xup_ne (by omega)).trans ga
    have hag : ∀ a9 : Nat, (a9 < m ∨ m + 2 ≤ a9) → F33 a9 = F a9 := fun a9 q0 => by rw [← e33]; exact (xup_ne (by omega)).trans (hag a9 q0)
    refine x_aload_n hC d_MessageCoderModel_ends_43 rfl rfl ?_
    refine x_getf hC kf_MessageCoderModel_51 o0 rfl d_MessageCoderModel_ends_44 ?_
    refine x_ifN_eq hC d_MessageCoderModel_ends_47 (tgt := 59) (by decide) (by omega) (fun c_47 => ?_) (fun c_47 => ?_)
    · skip
      refine x_aload_n hC d_MessageCoderModel_ends_59 rfl rfl ?_
      refine x_getf hC kf_MessageCoderModel_58 o0 rfl d_MessageCoderModel_ends_60 ?_
      refine x_bipush hC d_MessageCoderModel_ends_63 (v := nI 8) (by decide) ?_
      refine x_icmpN_ne hC d_MessageCoderModel_ends_65 (tgt := 104) (by decide) (by omega) (by omega) (fun c_65 => ?_) (fun c_65 => ?_)
      · skip
        refine x_aload_n hC d_MessageCoderModel_ends_104 rfl rfl ?_
        refine x_dup hC d_MessageCoderModel_ends_105 rfl ?_
        refine x_getf hC kf_MessageCoderModel_58 o0 rfl d_MessageCoderModel_ends_106 ?_
        refine x_iconst hC d_MessageCoderModel_ends_109 (v := nI 1) (by decide) ?_
        refine x_iadd hC d_MessageCoderModel_ends_110 (v := (nI (ch + 1))) (x_addN (by omega)) ?_
        refine x_putf hC kf_MessageCoderModel_58 o0 (Nat.le_of_ble_eq_true rfl) rfl rfl d_MessageCoderModel_ends_111 (fs1 := [.int (nI (thC y a1 a2 a3 a4)), .ref (m + 1), .int (nI (ch + 1)), .int (nI (sv)), .int rs, .ref (m + 2), .ref (m + 3), .ref (m + 4), .ref (m + 5), .ref (m + 6), .int (nI (bm)), .ref (m + 7), .int (nI (dm)), .ref (m + 8), .ref (m + 9), .int (nI (lz)), .ref (m + 10), .int (nI (ty)), .int (nI (he)), .int er, .int ea, .int fa, .ref (m + 11), .int (nI (cn))]) rfl ?_
        generalize e34 : xup F33 (m) (.inl (10, [.int (nI (thC y a1 a2 a3 a4)), .ref (m + 1), .int (nI (ch + 1)), .int (nI (sv)), .int rs, .ref (m + 2), .ref (m + 3), .ref (m + 4), .ref (m + 5), .ref (m + 6), .int (nI (bm)), .ref (m + 7), .int (nI (dm)), .ref (m + 8), .ref (m + 9), .int (nI (lz)), .ref (m + 10), .int (nI (ty)), .int (nI (he)), .int er, .int ea, .int fa, .ref (m + 11), .int (nI (cn))])) = F34
        have o0 : F34 (m) = some (.inl (10, [.int (nI (thC y a1 a2 a3 a4)), .ref (m + 1), .int (nI (ch + 1)), .int (nI (sv)), .int rs, .ref (m + 2), .ref (m + 3), .ref (m + 4), .ref (m + 5), .ref (m + 6), .int (nI (bm)), .ref (m + 7), .int (nI (dm)), .ref (m + 8), .ref (m + 9), .int (nI (lz)), .ref (m + 10), .int (nI (ty)), .int (nI (he)), .int er, .int ea, .int fa, .ref (m + 11), .int (nI (cn))])) := by rw [← e34]; exact xup_eq
        have ga : F34 (m + 1) = some (.inr (0, 4730, fun b9 => .int (nI (g b9)))) := by rw [← e34]; exact (xup_ne (by omega)).trans ga
        have hag : ∀ a9 : Nat, (a9 < m ∨ m + 2 ≤ a9) → F34 a9 = F a9 := fun a9 q0 => by rw [← e34]; exact (xup_ne (by omega)).trans (hag a9 q0)
        refine x_aload_n hC d_MessageCoderModel_ends_114 rfl rfl ?_
        refine x_bipush hC d_MessageCoderModel_ends_115 (v := nI 10) (by decide) ?_
        refine x_aload_n hC d_MessageCoderModel_ends_117 rfl rfl ?_
        refine x_getf hC kf_MessageCoderModel_58 o0 rfl d_MessageCoderModel_ends_118 ?_
        refine x_callV hC kv_MessageCoderModel_54 (c_MessageCoderModel_copies (o0 := o0) (ga := ga) (hf := by omega) (ht := by omega) (hft := by omega)) o0 rfl rfl (by decide) rfl rfl rfl (Nat.le_of_ble_eq_true rfl) (by decide) d_MessageCoderModel_ends_121 (fun r9 F9 z9 hp9 => ?_)
        obtain ⟨rfl, h9c, j0, j1, hag9⟩ := hp9
        rw [h9c]
        clear h9c z9
        generalize F9 = F35 at *
        have o0 : F35 (m) = some (.inl (10, [.int (nI ((thC y a1 a2 a3 a4))), .ref (m + 1), .int (nI ((ch + 1))), .int (nI (sv)), .int rs, .ref (m + 2), .ref (m + 3), .ref (m + 4), .ref (m + 5), .ref (m + 6), .int (nI (bm)), .ref (m + 7), .int (nI (dm)), .ref (m + 8), .ref (m + 9), .int (nI (lz)), .ref (m + 10), .int (nI (ty)), .int (nI (he)), .int er, .int ea, .int fa, .ref (m + 11), .int (nI (cn))])) := j0
        have ga : F35 (m + 1) = some (.inr (0, 4730, fun b9 => .int (nI ((cpyR g 10 (ch + 1)) b9)))) := j1
        have hag : ∀ a9 : Nat, (a9 < m ∨ m + 2 ≤ a9) → F35 a9 = F a9 := fun a9 q0 => (hag9 a9 (by omega)).trans (hag a9 q0)
        have hg_121 := hag9
        clear hag9
        refine x_aload_n hC d_MessageCoderModel_ends_124 rfl rfl ?_
        refine x_getf hC kf_MessageCoderModel_61 o0 rfl d_MessageCoderModel_ends_125 ?_
        exact hret _ _ _ _ _ _ _ d_MessageCoderModel_ends_128 (by decide) (by decide) rfl (⟨congrArg (fun q => some (Value.int q)) ((if_pos c_47).symm), rfl, by rw [if_pos c_47]; unfold endC; rw [if_neg c_65]; exact o0, by rw [if_pos c_47]; unfold endG; rw [if_neg c_65]; exact ga, hag⟩)
      · skip
        refine x_iconst hC d_MessageCoderModel_ends_68 (v := nI 1) (by decide) ?_
        refine x_istore hC d_MessageCoderModel_ends_69 (Nat.le_of_ble_eq_true rfl) (L1 := [some (.ref m), some (.int (nI (y))), some (.int (nI (a1))), some (.int (nI (a2))), some (.int (nI (a3))), some (.int (nI (a4))), some (.int (nI 1))]) rfl ?_
        have loop_71 : ∀ (m9 : Nat) (Fh71 : xF) (i : Nat), (Fh71 (m) = some (.inl (10, [.int (nI ((thC y a1 a2 a3 a4))), .ref (m + 1), .int (nI (ch)), .int (nI (sv)), .int rs, .ref (m + 2), .ref (m + 3), .ref (m + 4), .ref (m + 5), .ref (m + 6), .int (nI (bm)), .ref (m + 7), .int (nI (dm)), .ref (m + 8), .ref (m + 9), .int (nI (lz)), .ref (m + 10), .int (nI (ty)), .int (nI (he)), .int er, .int ea, .int fa, .ref (m + 11), .int (nI (cn))]))) → (Fh71 (m + 1) = some (.inr (0, 4730, fun b9 => .int (nI ((shG g i) b9))))) → (∀ a9 : Nat, (a9 < m ∨ m + 2 ≤ a9) → Fh71 a9 = F a9) → (i ≤ 7) → (7 - i < m9) → xX P Θ 71 [some (.ref m), some (.int (nI (y))), some (.int (nI (a1))), some (.int (nI (a2))), some (.int (nI (a3))), some (.int (nI (a4))), some (.int (nI (i + 1)))] [] Fh71 (z) 0 0 := by
          intro m9
          induction m9 with
          | zero => intros; omega
          | succ m9 ih_71 =>
            intro Fh71 i o0 ga hag hi hm_71
            refine x_iload hC d_MessageCoderModel_ends_71 rfl ?_
            refine x_bipush hC d_MessageCoderModel_ends_73 (v := nI 8) (by decide) ?_
            refine x_icmpN_ge hC d_MessageCoderModel_ends_75 (tgt := 94) (by decide) (by omega) (by omega) (fun c_75 => ?_) (fun c_75 => ?_)
            · skip
              obtain rfl : i = 7 := by omega
              refine x_aload_n hC d_MessageCoderModel_ends_94 rfl rfl ?_
              refine x_dup hC d_MessageCoderModel_ends_95 rfl ?_
              refine x_getf hC kf_MessageCoderModel_58 o0 rfl d_MessageCoderModel_ends_96 ?_
              refine x_iconst hC d_MessageCoderModel_ends_99 (v := nI 1) (by decide) ?_
              refine x_isub hC d_MessageCoderModel_ends_100 (v := (nI ((ch) - 1))) (pk_sub (by omega)) ?_
              refine x_top (v := (nI (7))) (congrArg nI (by omega)) ?_
              refine x_putf hC kf_MessageCoderModel_58 o0 (Nat.le_of_ble_eq_true rfl) rfl rfl d_MessageCoderModel_ends_101 (fs1 := [.int (nI ((thC y a1 a2 a3 a4))), .ref (m + 1), .int (nI 7), .int (nI (sv)), .int rs, .ref (m + 2), .ref (m + 3), .ref (m + 4), .ref (m + 5), .ref (m + 6), .int (nI (bm)), .ref (m + 7), .int (nI (dm)), .ref (m + 8), .ref (m + 9), .int (nI (lz)), .ref (m + 10), .int (nI (ty)), .int (nI (he)), .int er, .int ea, .int fa, .ref (m + 11), .int (nI (cn))]) rfl ?_
              generalize e36 : xup Fh71 (m) (.inl (10, [.int (nI ((thC y a1 a2 a3 a4))), .ref (m + 1), .int (nI 7), .int (nI (sv)), .int rs, .ref (m + 2), .ref (m + 3), .ref (m + 4), .ref (m + 5), .ref (m + 6), .int (nI (bm)), .ref (m + 7), .int (nI (dm)), .ref (m + 8), .ref (m + 9), .int (nI (lz)), .ref (m + 10), .int (nI (ty)), .int (nI (he)), .int er, .int ea, .int fa, .ref (m + 11), .int (nI (cn))])) = F36
              have o0 : F36 (m) = some (.inl (10, [.int (nI ((thC y a1 a2 a3 a4))), .ref (m + 1), .int (nI 7), .int (nI (sv)), .int rs, .ref (m + 2), .ref (m + 3), .ref (m + 4), .ref (m + 5), .ref (m + 6), .int (nI (bm)), .ref (m + 7), .int (nI (dm)), .ref (m + 8), .ref (m + 9), .int (nI (lz)), .ref (m + 10), .int (nI (ty)), .int (nI (he)), .int er, .int ea, .int fa, .ref (m + 11), .int (nI (cn))])) := by rw [← e36]; exact xup_eq
              have ga : F36 (m + 1) = some (.inr (0, 4730, fun b9 => .int (nI ((shG g 7) b9)))) := by rw [← e36]; exact (xup_ne (by omega)).trans ga
              have hag : ∀ a9 : Nat, (a9 < m ∨ m + 2 ≤ a9) → F36 a9 = F a9 := fun a9 q0 => by rw [← e36]; exact (xup_ne (by omega)).trans (hag a9 q0)
              refine x_aload_n hC d_MessageCoderModel_ends_104 rfl rfl ?_
              refine x_dup hC d_MessageCoderModel_ends_105 rfl ?_
              refine x_getf hC kf_MessageCoderModel_58 o0 rfl d_MessageCoderModel_ends_106 ?_
              refine x_iconst hC d_MessageCoderModel_ends_109 (v := nI 1) (by decide) ?_
              refine x_iadd hC d_MessageCoderModel_ends_110 (v := (nI (8))) (x_addN (by omega)) ?_
              refine x_putf hC kf_MessageCoderModel_58 o0 (Nat.le_of_ble_eq_true rfl) rfl rfl d_MessageCoderModel_ends_111 (fs1 := [.int (nI ((thC y a1 a2 a3 a4))), .ref (m + 1), .int (nI 8), .int (nI (sv)), .int rs, .ref (m + 2), .ref (m + 3), .ref (m + 4), .ref (m + 5), .ref (m + 6), .int (nI (bm)), .ref (m + 7), .int (nI (dm)), .ref (m + 8), .ref (m + 9), .int (nI (lz)), .ref (m + 10), .int (nI (ty)), .int (nI (he)), .int er, .int ea, .int fa, .ref (m + 11), .int (nI (cn))]) rfl ?_
              generalize e37 : xup F36 (m) (.inl (10, [.int (nI ((thC y a1 a2 a3 a4))), .ref (m + 1), .int (nI 8), .int (nI (sv)), .int rs, .ref (m + 2), .ref (m + 3), .ref (m + 4), .ref (m + 5), .ref (m + 6), .int (nI (bm)), .ref (m + 7), .int (nI (dm)), .ref (m + 8), .ref (m + 9), .int (nI (lz)), .ref (m + 10), .int (nI (ty)), .int (nI (he)), .int er, .int ea, .int fa, .ref (m + 11), .int (nI (cn))])) = F37
              have o0 : F37 (m) = some (.inl (10, [.int (nI ((thC y a1 a2 a3 a4))), .ref (m + 1), .int (nI 8), .int (nI (sv)), .int rs, .ref (m + 2), .ref (m + 3), .ref (m + 4), .ref (m + 5), .ref (m + 6), .int (nI (bm)), .ref (m + 7), .int (nI (dm)), .ref (m + 8), .ref (m + 9), .int (nI (lz)), .ref (m + 10), .int (nI (ty)), .int (nI (he)), .int er, .int ea, .int fa, .ref (m + 11), .int (nI (cn))])) := by rw [← e37]; exact xup_eq
              have ga : F37 (m + 1) = some (.inr (0, 4730, fun b9 => .int (nI ((shG g 7) b9)))) := by rw [← e37]; exact (xup_ne (by omega)).trans ga
              have hag : ∀ a9 : Nat, (a9 < m ∨ m + 2 ≤ a9) → F37 a9 = F a9 := fun a9 q0 => by rw [← e37]; exact (xup_ne (by omega)).trans (hag a9 q0)
              refine x_aload_n hC d_MessageCoderModel_ends_114 rfl rfl ?_
              refine x_bipush hC d_MessageCoderModel_ends_115 (v := nI 10) (by decide) ?_
              refine x_aload_n hC d_MessageCoderModel_ends_117 rfl rfl ?_
              refine x_getf hC kf_MessageCoderModel_58 o0 rfl d_MessageCoderModel_ends_118 ?_
              refine x_callV hC kv_MessageCoderModel_54 (c_MessageCoderModel_copies (o0 := o0) (ga := ga) (hf := by omega) (ht := by omega) (hft := by omega)) o0 rfl rfl (by decide) rfl rfl rfl (Nat.le_of_ble_eq_true rfl) (by decide) d_MessageCoderModel_ends_121 (fun r9 F9 z9 hp9 => ?_)
              obtain ⟨rfl, h9c, j0, j1, hag9⟩ := hp9
              rw [h9c]
              clear h9c z9
              generalize F9 = F38 at *
              have o0 : F38 (m) = some (.inl (10, [.int (nI ((thC y a1 a2 a3 a4))), .ref (m + 1), .int (nI 8), .int (nI (sv)), .int rs, .ref (m + 2), .ref (m + 3), .ref (m + 4), .ref (m + 5), .ref (m + 6), .int (nI (bm)), .ref (m + 7), .int (nI (dm)), .ref (m + 8), .ref (m + 9), .int (nI (lz)), .ref (m + 10), .int (nI (ty)), .int (nI (he)), .int er, .int ea, .int fa, .ref (m + 11), .int (nI (cn))])) := j0
              have ga : F38 (m + 1) = some (.inr (0, 4730, fun b9 => .int (nI ((cpyR (shG g 7) 10 8) b9)))) := j1
              have hag : ∀ a9 : Nat, (a9 < m ∨ m + 2 ≤ a9) → F38 a9 = F a9 := fun a9 q0 => (hag9 a9 (by omega)).trans (hag a9 q0)
              have hg_121 := hag9
              clear hag9
              refine x_aload_n hC d_MessageCoderModel_ends_124 rfl rfl ?_
              refine x_getf hC kf_MessageCoderModel_61 o0 rfl d_MessageCoderModel_ends_125 ?_
              exact hret _ _ _ _ _ _ _ d_MessageCoderModel_ends_128 (by decide) (by decide) rfl (⟨congrArg (fun q => some (Value.int q)) ((if_pos c_47).symm), rfl, by rw [if_pos c_47]; unfold endC; rw [if_pos c_65]; exact o0, by rw [if_pos c_47]; unfold endG; rw [if_pos c_65]; exact ga, hag⟩)
            · skip
              refine x_aload_n hC d_MessageCoderModel_ends_78 rfl rfl ?_
              refine x_iload hC d_MessageCoderModel_ends_79 rfl ?_
              refine x_iconst hC d_MessageCoderModel_ends_81 (v := nI 1) (by decide) ?_
              refine x_iadd hC d_MessageCoderModel_ends_82 (v := (nI (i + 2))) (x_addN (by omega)) ?_
              refine x_iload hC d_MessageCoderModel_ends_83 rfl ?_
              refine x_callV hC kv_MessageCoderModel_54 (c_MessageCoderModel_copies (o0 := o0) (ga := ga) (hf := by omega) (ht := by omega) (hft := by omega)) o0 rfl rfl (by decide) rfl rfl rfl (Nat.le_of_ble_eq_true rfl) (by decide) d_MessageCoderModel_ends_85 (fun r9 F9 z9 hp9 => ?_)
              obtain ⟨rfl, h9c, j0, j1, hag9⟩ := hp9
              rw [h9c]
              clear h9c z9
              generalize F9 = F39 at *
              have o0 : F39 (m) = some (.inl (10, [.int (nI ((thC y a1 a2 a3 a4))), .ref (m + 1), .int (nI (ch)), .int (nI (sv)), .int rs, .ref (m + 2), .ref (m + 3), .ref (m + 4), .ref (m + 5), .ref (m + 6), .int (nI (bm)), .ref (m + 7), .int (nI (dm)), .ref (m + 8), .ref (m + 9), .int (nI (lz)), .ref (m + 10), .int (nI (ty)), .int (nI (he)), .int er, .int ea, .int fa, .ref (m + 11), .int (nI (cn))])) := j0
              have ga : F39 (m + 1) = some (.inr (0, 4730, fun b9 => .int (nI ((cpyR (shG g i) (i + 2) (i + 1)) b9)))) := j1
              have hag : ∀ a9 : Nat, (a9 < m ∨ m + 2 ≤ a9) → F39 a9 = F a9 := fun a9 q0 => (hag9 a9 (by omega)).trans (hag a9 q0)
              have hg_85 := hag9
              clear hag9
              refine x_iinc hC d_MessageCoderModel_ends_88 rfl (v := (nI (i + 2))) (x_incN 1) (Nat.le_of_ble_eq_true rfl) (L1 := [some (.ref m), some (.int (nI (y))), some (.int (nI (a1))), some (.int (nI (a2))), some (.int (nI (a3))), some (.int (nI (a4))), some (.int (nI (i + 2)))]) rfl ?_
              refine x_goto hC d_MessageCoderModel_ends_91 (tgt := 71) (by decide) ?_
              exact ih_71 F39 (i + 1) o0 ga hag (by omega) (by omega)
        exact loop_71 (7 - 0 + 1) F33 (0) o0 ga hag (by omega) (by omega)
    · skip
      refine x_aload_n hC d_MessageCoderModel_ends_50 rfl rfl ?_
      refine x_bipush hC d_MessageCoderModel_ends_51 (v := nI 10) (by decide) ?_
      refine x_iconst hC d_MessageCoderModel_ends_53 (v := nI 0) (by decide) ?_
      refine x_callV hC kv_MessageCoderModel_54 (c_MessageCoderModel_copies (o0 := o0) (ga := ga) (hf := by omega) (ht := by omega) (hft := by omega)) o0 rfl rfl (by decide) rfl rfl rfl (Nat.le_of_ble_eq_true rfl) (by decide) d_MessageCoderModel_ends_54 (fun r9 F9 z9 hp9 => ?_)
      obtain ⟨rfl, h9c, j0, j1, hag9⟩ := hp9
      rw [h9c]
      clear h9c z9
      generalize F9 = F40 at *
      have o0 : F40 (m) = some (.inl (10, [.int (nI ((thC y a1 a2 a3 a4))), .ref (m + 1), .int (nI (ch)), .int (nI (sv)), .int rs, .ref (m + 2), .ref (m + 3), .ref (m + 4), .ref (m + 5), .ref (m + 6), .int (nI (bm)), .ref (m + 7), .int (nI (dm)), .ref (m + 8), .ref (m + 9), .int (nI (lz)), .ref (m + 10), .int (nI (ty)), .int (nI (he)), .int er, .int ea, .int fa, .ref (m + 11), .int (nI (cn))])) := j0
      have ga : F40 (m + 1) = some (.inr (0, 4730, fun b9 => .int (nI ((cpyR g 10 0) b9)))) := j1
      have hag : ∀ a9 : Nat, (a9 < m ∨ m + 2 ≤ a9) → F40 a9 = F a9 := fun a9 q0 => (hag9 a9 (by omega)).trans (hag a9 q0)
      have hg_54 := hag9
      clear hag9
      refine x_iconst hC d_MessageCoderModel_ends_57 (v := nI 0) (by decide) ?_
      exact hret _ _ _ _ _ _ _ d_MessageCoderModel_ends_58 (by decide) (by decide) rfl (⟨congrArg (fun q => some (Value.int q)) ((if_neg (by omega)).symm), rfl, by rw [if_neg (by omega)]; exact o0, by rw [if_neg (by omega)]; exact ga, hag⟩)

theorem d_MessageCoderModel_lowest_0 : decode prog_14_method_9_code 0 = .ok (.iconst (-1), 1) := by decide +kernel
theorem d_MessageCoderModel_lowest_1 : decode prog_14_method_9_code 1 = .ok (.istore_n 2, 1) := by decide +kernel
theorem d_MessageCoderModel_lowest_2 : decode prog_14_method_9_code 2 = .ok (.iconst 0, 1) := by decide +kernel
theorem d_MessageCoderModel_lowest_3 : decode prog_14_method_9_code 3 = .ok (.istore_n 3, 1) := by decide +kernel
theorem d_MessageCoderModel_lowest_4 : decode prog_14_method_9_code 4 = .ok (.iload_n 3, 1) := by decide +kernel
theorem d_MessageCoderModel_lowest_5 : decode prog_14_method_9_code 5 = .ok (.bipush 8, 2) := by decide +kernel
theorem d_MessageCoderModel_lowest_7 : decode prog_14_method_9_code 7 = .ok (.if_icmp .ge 45, 3) := by decide +kernel
theorem d_MessageCoderModel_lowest_10 : decode prog_14_method_9_code 10 = .ok (.aload_n 0, 1) := by decide +kernel
theorem d_MessageCoderModel_lowest_11 : decode prog_14_method_9_code 11 = .ok (.getfield 19, 3) := by decide +kernel
theorem d_MessageCoderModel_lowest_14 : decode prog_14_method_9_code 14 = .ok (.iload_n 3, 1) := by decide +kernel
theorem d_MessageCoderModel_lowest_15 : decode prog_14_method_9_code 15 = .ok (.iaload, 1) := by decide +kernel
theorem d_MessageCoderModel_lowest_16 : decode prog_14_method_9_code 16 = .ok (.iload_n 3, 1) := by decide +kernel
theorem d_MessageCoderModel_lowest_17 : decode prog_14_method_9_code 17 = .ok (.if_icmp .ne 29, 3) := by decide +kernel
theorem d_MessageCoderModel_lowest_20 : decode prog_14_method_9_code 20 = .ok (.iload_n 3, 1) := by decide +kernel
theorem d_MessageCoderModel_lowest_21 : decode prog_14_method_9_code 21 = .ok (.iload_n 1, 1) := by decide +kernel
theorem d_MessageCoderModel_lowest_22 : decode prog_14_method_9_code 22 = .ok (.if_icmp .eq 24, 3) := by decide +kernel
theorem d_MessageCoderModel_lowest_25 : decode prog_14_method_9_code 25 = .ok (.iload_n 2, 1) := by decide +kernel
theorem d_MessageCoderModel_lowest_26 : decode prog_14_method_9_code 26 = .ok (.ifCond .lt 18, 3) := by decide +kernel
theorem d_MessageCoderModel_lowest_29 : decode prog_14_method_9_code 29 = .ok (.aload_n 0, 1) := by decide +kernel
theorem d_MessageCoderModel_lowest_30 : decode prog_14_method_9_code 30 = .ok (.getfield 22, 3) := by decide +kernel
theorem d_MessageCoderModel_lowest_33 : decode prog_14_method_9_code 33 = .ok (.iload_n 3, 1) := by decide +kernel
theorem d_MessageCoderModel_lowest_34 : decode prog_14_method_9_code 34 = .ok (.iaload, 1) := by decide +kernel
theorem d_MessageCoderModel_lowest_35 : decode prog_14_method_9_code 35 = .ok (.aload_n 0, 1) := by decide +kernel
theorem d_MessageCoderModel_lowest_36 : decode prog_14_method_9_code 36 = .ok (.getfield 22, 3) := by decide +kernel
theorem d_MessageCoderModel_lowest_39 : decode prog_14_method_9_code 39 = .ok (.iload_n 2, 1) := by decide +kernel
theorem d_MessageCoderModel_lowest_40 : decode prog_14_method_9_code 40 = .ok (.iaload, 1) := by decide +kernel
theorem d_MessageCoderModel_lowest_41 : decode prog_14_method_9_code 41 = .ok (.if_icmp .ge 5, 3) := by decide +kernel
theorem d_MessageCoderModel_lowest_44 : decode prog_14_method_9_code 44 = .ok (.iload_n 3, 1) := by decide +kernel
theorem d_MessageCoderModel_lowest_45 : decode prog_14_method_9_code 45 = .ok (.istore_n 2, 1) := by decide +kernel
theorem d_MessageCoderModel_lowest_46 : decode prog_14_method_9_code 46 = .ok (.iinc 3 1, 3) := by decide +kernel
theorem d_MessageCoderModel_lowest_49 : decode prog_14_method_9_code 49 = .ok (.goto (-45), 3) := by decide +kernel
theorem d_MessageCoderModel_lowest_52 : decode prog_14_method_9_code 52 = .ok (.iload_n 2, 1) := by decide +kernel
theorem d_MessageCoderModel_lowest_53 : decode prog_14_method_9_code 53 = .ok (.ireturn, 1) := by decide +kernel
set_option maxHeartbeats 4000000 in
set_option maxRecDepth 20000 in
theorem c_MessageCoderModel_lowest {P : xP} {F : xF} {z : Nat} {m : Nat} {th : Nat} {ch : Nat} {sv : Nat} {rs : Int32} {bm : Nat} {dm : Nat} {lz : Nat} {ty : Nat} {he : Nat} {er : Int32} {ea : Int32} {fa : Int32} {cn : Nat} {gr : Nat → Nat} {gw : Nat → Nat} {b : Nat} (o0 : F (m) = some (.inl (10, [.int (nI (th)), .ref (m + 1), .int (nI (ch)), .int (nI (sv)), .int rs, .ref (m + 2), .ref (m + 3), .ref (m + 4), .ref (m + 5), .ref (m + 6), .int (nI (bm)), .ref (m + 7), .int (nI (dm)), .ref (m + 8), .ref (m + 9), .int (nI (lz)), .ref (m + 10), .int (nI (ty)), .int (nI (he)), .int er, .int ea, .int fa, .ref (m + 11), .int (nI (cn))]))) (h4 : F (m + 4) = some (.inr (0, 8, fun b9 => .int (nI (gr b9))))) (h5 : F (m + 5) = some (.inr (0, 8, fun b9 => .int (nI (gw b9))))) (hb : b ≤ 8) (hgr : ∀ j, j < 8 → gr j < 8) (hgw : ∀ j, j < 8 → gw j < 100000) : xM P xy_MessageCoderModel_lowest [.ref m, .int (xo b)] F (z) 0 0 (fun r9 F9 z9 => r9 = some (.int (xo (lowN gr gw b 8))) ∧ F9 = F ∧ z9 = z) := by
  refine xM_i .int rfl (Nat.le_of_ble_eq_true rfl) (L0 := [some (.ref m), some (.int (xo b)), none, none]) rfl rfl fun Θ hC hret => ?_
  refine x_iconst hC d_MessageCoderModel_lowest_0 (v := -1) (by decide) ?_
  refine x_top (v := (xo 8)) xo_8.symm ?_
  refine x_istore_n hC d_MessageCoderModel_lowest_1 rfl (Nat.le_of_ble_eq_true rfl) (L1 := [some (.ref m), some (.int (xo b)), some (.int (xo 8)), none]) rfl ?_
  refine x_iconst hC d_MessageCoderModel_lowest_2 (v := nI 0) (by decide) ?_
  refine x_istore_n hC d_MessageCoderModel_lowest_3 rfl (Nat.le_of_ble_eq_true rfl) (L1 := [some (.ref m), some (.int (xo b)), some (.int (xo 8)), some (.int (nI 0))]) rfl ?_
  have loop_4 : ∀ (m9 : Nat) (k : Nat) (f : Nat), (F (m) = some (.inl (10, [.int (nI (th)), .ref (m + 1), .int (nI (ch)), .int (nI (sv)), .int rs, .ref (m + 2), .ref (m + 3), .ref (m + 4), .ref (m + 5), .ref (m + 6), .int (nI (bm)), .ref (m + 7), .int (nI (dm)), .ref (m + 8), .ref (m + 9), .int (nI (lz)), .ref (m + 10), .int (nI (ty)), .int (nI (he)), .int er, .int ea, .int fa, .ref (m + 11), .int (nI (cn))]))) → (F (m + 4) = some (.inr (0, 8, fun b9 => .int (nI (gr b9))))) → (F (m + 5) = some (.inr (0, 8, fun b9 => .int (nI (gw b9))))) → (k ≤ 8) → (f = lowN gr gw b k) → (8 - k < m9) → xX P Θ 4 [some (.ref m), some (.int (xo b)), some (.int (xo (f))), some (.int (nI (k)))] [] F (z) 0 0 := by
    intro m9
    induction m9 with
    | zero => intros; omega
    | succ m9 ih_4 =>
      intro  k f o0 h4 h5 hk kf hm_4
      have hf : f ≤ 8 := by rw [kf]; exact lowN_8 gr gw b hk
      refine x_iload_n hC d_MessageCoderModel_lowest_4 rfl rfl ?_
      refine x_bipush hC d_MessageCoderModel_lowest_5 (v := nI 8) (by decide) ?_
      refine x_icmpN_ge hC d_MessageCoderModel_lowest_7 (tgt := 52) (by decide) (by omega) (by omega) (fun c_7 => ?_) (fun c_7 => ?_)
      · skip
        refine x_iload_n hC d_MessageCoderModel_lowest_52 rfl rfl ?_
        exact hret _ _ _ _ _ _ _ d_MessageCoderModel_lowest_53 (by decide) (by decide) rfl (⟨by rw [kf, show k = 8 by omega], rfl, rfl⟩)
      · skip
        refine x_aload_n hC d_MessageCoderModel_lowest_10 rfl rfl ?_
        refine x_getf hC kf_MessageCoderModel_19 o0 rfl d_MessageCoderModel_lowest_11 ?_
        have hb9 := hgr k (by omega)
        have hb8 := hgw k (by omega)
        refine x_iload_n hC d_MessageCoderModel_lowest_14 rfl rfl ?_
        refine x_iald hC h4 (j := k) ⟨rfl, by omega, by omega⟩ (x := nI (gr (k))) rfl d_MessageCoderModel_lowest_15 ?_
        refine x_iload_n hC d_MessageCoderModel_lowest_16 rfl rfl ?_
        refine x_icmpN_ne hC d_MessageCoderModel_lowest_17 (tgt := 46) (by decide) (by omega) (by omega) (fun c_17 => ?_) (fun c_17 => ?_)
        · skip
          refine x_iinc hC d_MessageCoderModel_lowest_46 rfl (v := (nI (k + 1))) (x_incN 1) (Nat.le_of_ble_eq_true rfl) (L1 := [some (.ref m), some (.int (xo b)), some (.int (xo (f))), some (.int (nI (k + 1)))]) rfl ?_
          refine x_goto hC d_MessageCoderModel_lowest_49 (tgt := 4) (by decide) ?_
          exact ih_4  (k + 1) (f) o0 h4 h5 (by omega) (by first | (rw [lowN, ← kf, if_neg (fun h9 => c_17 h9.1)]; done) | (rw [lowN, ← kf, if_neg (fun h9 => h9.2.1 ((xo_eqN (by omega) hb).mp c_22))]; done) | (rw [lowN, ← kf, if_pos ⟨c_17, fun h9 => c_22 ((xo_eqN (by omega) hb).mpr h9), Or.inl ((xo_lt hf).mp c_26)⟩]; done) | (rw [lowN, ← kf, if_neg (fun h9 => h9.2.2.elim (fun e => c_26 ((xo_lt hf).mpr e)) (fun e => absurd e (by omega)))]; done) | (rw [lowN, ← kf, if_pos ⟨c_17, fun h9 => c_22 ((xo_eqN (by omega) hb).mpr h9), Or.inr c_41⟩])) (by omega)
        · skip
          refine x_iload_n hC d_MessageCoderModel_lowest_20 rfl rfl ?_
          refine x_iload_n hC d_MessageCoderModel_lowest_21 rfl rfl ?_
          refine x_icmp_eq hC d_MessageCoderModel_lowest_22 (tgt := 46) (by decide) (fun c_22 => ?_) (fun c_22 => ?_)
          · skip
            refine x_iinc hC d_MessageCoderModel_lowest_46 rfl (v := (nI (k + 1))) (x_incN 1) (Nat.le_of_ble_eq_true rfl) (L1 := [some (.ref m), some (.int (xo b)), some (.int (xo (f))), some (.int (nI (k + 1)))]) rfl ?_
            refine x_goto hC d_MessageCoderModel_lowest_49 (tgt := 4) (by decide) ?_
            exact ih_4  (k + 1) (f) o0 h4 h5 (by omega) (by first | (rw [lowN, ← kf, if_neg (fun h9 => c_17 h9.1)]; done) | (rw [lowN, ← kf, if_neg (fun h9 => h9.2.1 ((xo_eqN (by omega) hb).mp c_22))]; done) | (rw [lowN, ← kf, if_pos ⟨c_17, fun h9 => c_22 ((xo_eqN (by omega) hb).mpr h9), Or.inl ((xo_lt hf).mp c_26)⟩]; done) | (rw [lowN, ← kf, if_neg (fun h9 => h9.2.2.elim (fun e => c_26 ((xo_lt hf).mpr e)) (fun e => absurd e (by omega)))]; done) | (rw [lowN, ← kf, if_pos ⟨c_17, fun h9 => c_22 ((xo_eqN (by omega) hb).mpr h9), Or.inr c_41⟩])) (by omega)
          · skip
            refine x_iload_n hC d_MessageCoderModel_lowest_25 rfl rfl ?_
            refine x_if_lt hC d_MessageCoderModel_lowest_26 (tgt := 44) (by decide) (fun c_26 => ?_) (fun c_26 => ?_)
            · skip
              refine x_iload_n hC d_MessageCoderModel_lowest_44 rfl rfl ?_
              refine x_top (v := (xo (k))) (xo_of (by omega)).symm ?_
              refine x_istore_n hC d_MessageCoderModel_lowest_45 rfl (Nat.le_of_ble_eq_true rfl) (L1 := [some (.ref m), some (.int (xo b)), some (.int (xo (k))), some (.int (nI (k)))]) rfl ?_
              refine x_iinc hC d_MessageCoderModel_lowest_46 rfl (v := (nI (k + 1))) (x_incN 1) (Nat.le_of_ble_eq_true rfl) (L1 := [some (.ref m), some (.int (xo b)), some (.int (xo (k))), some (.int (nI (k + 1)))]) rfl ?_
              refine x_goto hC d_MessageCoderModel_lowest_49 (tgt := 4) (by decide) ?_
              exact ih_4  (k + 1) (k) o0 h4 h5 (by omega) (by first | (rw [lowN, ← kf, if_neg (fun h9 => c_17 h9.1)]; done) | (rw [lowN, ← kf, if_neg (fun h9 => h9.2.1 ((xo_eqN (by omega) hb).mp c_22))]; done) | (rw [lowN, ← kf, if_pos ⟨c_17, fun h9 => c_22 ((xo_eqN (by omega) hb).mpr h9), Or.inl ((xo_lt hf).mp c_26)⟩]; done) | (rw [lowN, ← kf, if_neg (fun h9 => h9.2.2.elim (fun e => c_26 ((xo_lt hf).mpr e)) (fun e => absurd e (by omega)))]; done) | (rw [lowN, ← kf, if_pos ⟨c_17, fun h9 => c_22 ((xo_eqN (by omega) hb).mpr h9), Or.inr c_41⟩])) (by omega)
            · skip
              have hn8 : f ≠ 8 := fun e => c_26 ((xo_lt hf).mpr e)
              have hf8 : f < 8 := by omega
              have hb7 := hgw f hf8
              refine x_aload_n hC d_MessageCoderModel_lowest_29 rfl rfl ?_
              refine x_getf hC kf_MessageCoderModel_22 o0 rfl d_MessageCoderModel_lowest_30 ?_
              refine x_iload_n hC d_MessageCoderModel_lowest_33 rfl rfl ?_
              refine x_iald hC h5 (j := k) ⟨rfl, by omega, by omega⟩ (x := nI (gw (k))) rfl d_MessageCoderModel_lowest_34 ?_
              refine x_aload_n hC d_MessageCoderModel_lowest_35 rfl rfl ?_
              refine x_getf hC kf_MessageCoderModel_22 o0 rfl d_MessageCoderModel_lowest_36 ?_
              refine x_iload_n hC d_MessageCoderModel_lowest_39 rfl rfl ?_
              refine x_iald hC h5 (j := f) ⟨xo_of hf8, hf8, by decide⟩ (x := nI (gw (f))) rfl d_MessageCoderModel_lowest_40 ?_
              refine x_icmpN_ge hC d_MessageCoderModel_lowest_41 (tgt := 46) (by decide) (by omega) (by omega) (fun c_41 => ?_) (fun c_41 => ?_)
              · skip
                refine x_iinc hC d_MessageCoderModel_lowest_46 rfl (v := (nI (k + 1))) (x_incN 1) (Nat.le_of_ble_eq_true rfl) (L1 := [some (.ref m), some (.int (xo b)), some (.int (xo (f))), some (.int (nI (k + 1)))]) rfl ?_
                refine x_goto hC d_MessageCoderModel_lowest_49 (tgt := 4) (by decide) ?_
                exact ih_4  (k + 1) (f) o0 h4 h5 (by omega) (by first | (rw [lowN, ← kf, if_neg (fun h9 => c_17 h9.1)]; done) | (rw [lowN, ← kf, if_neg (fun h9 => h9.2.1 ((xo_eqN (by omega) hb).mp c_22))]; done) | (rw [lowN, ← kf, if_pos ⟨c_17, fun h9 => c_22 ((xo_eqN (by omega) hb).mpr h9), Or.inl ((xo_lt hf).mp c_26)⟩]; done) | (rw [lowN, ← kf, if_neg (fun h9 => h9.2.2.elim (fun e => c_26 ((xo_lt hf).mpr e)) (fun e => absurd e (by omega)))]; done) | (rw [lowN, ← kf, if_pos ⟨c_17, fun h9 => c_22 ((xo_eqN (by omega) hb).mpr h9), Or.inr c_41⟩])) (by omega)
              · skip
                refine x_iload_n hC d_MessageCoderModel_lowest_44 rfl rfl ?_
                refine x_top (v := (xo (k))) (xo_of (by omega)).symm ?_
                refine x_istore_n hC d_MessageCoderModel_lowest_45 rfl (Nat.le_of_ble_eq_true rfl) (L1 := [some (.ref m), some (.int (xo b)), some (.int (xo (k))), some (.int (nI (k)))]) rfl ?_
                refine x_iinc hC d_MessageCoderModel_lowest_46 rfl (v := (nI (k + 1))) (x_incN 1) (Nat.le_of_ble_eq_true rfl) (L1 := [some (.ref m), some (.int (xo b)), some (.int (xo (k))), some (.int (nI (k + 1)))]) rfl ?_
                refine x_goto hC d_MessageCoderModel_lowest_49 (tgt := 4) (by decide) ?_
                exact ih_4  (k + 1) (k) o0 h4 h5 (by omega) (by first | (rw [lowN, ← kf, if_neg (fun h9 => c_17 h9.1)]; done) | (rw [lowN, ← kf, if_neg (fun h9 => h9.2.1 ((xo_eqN (by omega) hb).mp c_22))]; done) | (rw [lowN, ← kf, if_pos ⟨c_17, fun h9 => c_22 ((xo_eqN (by omega) hb).mpr h9), Or.inl ((xo_lt hf).mp c_26)⟩]; done) | (rw [lowN, ← kf, if_neg (fun h9 => h9.2.2.elim (fun e => c_26 ((xo_lt hf).mpr e)) (fun e => absurd e (by omega)))]; done) | (rw [lowN, ← kf, if_pos ⟨c_17, fun h9 => c_22 ((xo_eqN (by omega) hb).mpr h9), Or.inr c_41⟩])) (by omega)
  exact loop_4 (8 - 0 + 1)  (0) (8) o0 h4 h5 (by omega) (rfl) (by omega)

theorem d_MessageCoderModel_joins_0 : decode prog_14_method_10_code 0 = .ok (.iload_n 1, 1) := by decide +kernel
theorem d_MessageCoderModel_joins_1 : decode prog_14_method_10_code 1 = .ok (.iload_n 2, 1) := by decide +kernel
theorem d_MessageCoderModel_joins_2 : decode prog_14_method_10_code 2 = .ok (.if_icmp .ge 7, 3) := by decide +kernel
theorem d_MessageCoderModel_joins_5 : decode prog_14_method_10_code 5 = .ok (.iload_n 1, 1) := by decide +kernel
theorem d_MessageCoderModel_joins_6 : decode prog_14_method_10_code 6 = .ok (.goto 4, 3) := by decide +kernel
theorem d_MessageCoderModel_joins_9 : decode prog_14_method_10_code 9 = .ok (.iload_n 2, 1) := by decide +kernel
theorem d_MessageCoderModel_joins_10 : decode prog_14_method_10_code 10 = .ok (.istore_n 3, 1) := by decide +kernel
theorem d_MessageCoderModel_joins_11 : decode prog_14_method_10_code 11 = .ok (.aload_n 0, 1) := by decide +kernel
theorem d_MessageCoderModel_joins_12 : decode prog_14_method_10_code 12 = .ok (.getfield 22, 3) := by decide +kernel
theorem d_MessageCoderModel_joins_15 : decode prog_14_method_10_code 15 = .ok (.iload_n 3, 1) := by decide +kernel
theorem d_MessageCoderModel_joins_16 : decode prog_14_method_10_code 16 = .ok (.aload_n 0, 1) := by decide +kernel
theorem d_MessageCoderModel_joins_17 : decode prog_14_method_10_code 17 = .ok (.getfield 22, 3) := by decide +kernel
theorem d_MessageCoderModel_joins_20 : decode prog_14_method_10_code 20 = .ok (.iload_n 1, 1) := by decide +kernel
theorem d_MessageCoderModel_joins_21 : decode prog_14_method_10_code 21 = .ok (.iaload, 1) := by decide +kernel
theorem d_MessageCoderModel_joins_22 : decode prog_14_method_10_code 22 = .ok (.aload_n 0, 1) := by decide +kernel
theorem d_MessageCoderModel_joins_23 : decode prog_14_method_10_code 23 = .ok (.getfield 22, 3) := by decide +kernel
theorem d_MessageCoderModel_joins_26 : decode prog_14_method_10_code 26 = .ok (.iload_n 2, 1) := by decide +kernel
theorem d_MessageCoderModel_joins_27 : decode prog_14_method_10_code 27 = .ok (.iaload, 1) := by decide +kernel
theorem d_MessageCoderModel_joins_28 : decode prog_14_method_10_code 28 = .ok (.iadd, 1) := by decide +kernel
theorem d_MessageCoderModel_joins_29 : decode prog_14_method_10_code 29 = .ok (.iastore, 1) := by decide +kernel
theorem d_MessageCoderModel_joins_30 : decode prog_14_method_10_code 30 = .ok (.iconst 0, 1) := by decide +kernel
theorem d_MessageCoderModel_joins_31 : decode prog_14_method_10_code 31 = .ok (.istore 4, 2) := by decide +kernel
theorem d_MessageCoderModel_joins_33 : decode prog_14_method_10_code 33 = .ok (.iload 4, 2) := by decide +kernel
theorem d_MessageCoderModel_joins_35 : decode prog_14_method_10_code 35 = .ok (.bipush 8, 2) := by decide +kernel
theorem d_MessageCoderModel_joins_37 : decode prog_14_method_10_code 37 = .ok (.if_icmp .ge 53, 3) := by decide +kernel
theorem d_MessageCoderModel_joins_40 : decode prog_14_method_10_code 40 = .ok (.aload_n 0, 1) := by decide +kernel
theorem d_MessageCoderModel_joins_41 : decode prog_14_method_10_code 41 = .ok (.getfield 19, 3) := by decide +kernel
theorem d_MessageCoderModel_joins_44 : decode prog_14_method_10_code 44 = .ok (.iload 4, 2) := by decide +kernel
theorem d_MessageCoderModel_joins_46 : decode prog_14_method_10_code 46 = .ok (.iaload, 1) := by decide +kernel
theorem d_MessageCoderModel_joins_47 : decode prog_14_method_10_code 47 = .ok (.iload_n 1, 1) := by decide +kernel
theorem d_MessageCoderModel_joins_48 : decode prog_14_method_10_code 48 = .ok (.if_icmp .eq 17, 3) := by decide +kernel
theorem d_MessageCoderModel_joins_51 : decode prog_14_method_10_code 51 = .ok (.aload_n 0, 1) := by decide +kernel
theorem d_MessageCoderModel_joins_52 : decode prog_14_method_10_code 52 = .ok (.getfield 19, 3) := by decide +kernel
theorem d_MessageCoderModel_joins_55 : decode prog_14_method_10_code 55 = .ok (.iload 4, 2) := by decide +kernel
theorem d_MessageCoderModel_joins_57 : decode prog_14_method_10_code 57 = .ok (.iaload, 1) := by decide +kernel
theorem d_MessageCoderModel_joins_58 : decode prog_14_method_10_code 58 = .ok (.iload_n 2, 1) := by decide +kernel
theorem d_MessageCoderModel_joins_59 : decode prog_14_method_10_code 59 = .ok (.if_icmp .eq 6, 3) := by decide +kernel
theorem d_MessageCoderModel_joins_62 : decode prog_14_method_10_code 62 = .ok (.goto 22, 3) := by decide +kernel
theorem d_MessageCoderModel_joins_65 : decode prog_14_method_10_code 65 = .ok (.aload_n 0, 1) := by decide +kernel
theorem d_MessageCoderModel_joins_66 : decode prog_14_method_10_code 66 = .ok (.getfield 19, 3) := by decide +kernel
theorem d_MessageCoderModel_joins_69 : decode prog_14_method_10_code 69 = .ok (.iload 4, 2) := by decide +kernel
theorem d_MessageCoderModel_joins_71 : decode prog_14_method_10_code 71 = .ok (.iload_n 3, 1) := by decide +kernel
theorem d_MessageCoderModel_joins_72 : decode prog_14_method_10_code 72 = .ok (.iastore, 1) := by decide +kernel
theorem d_MessageCoderModel_joins_73 : decode prog_14_method_10_code 73 = .ok (.aload_n 0, 1) := by decide +kernel
theorem d_MessageCoderModel_joins_74 : decode prog_14_method_10_code 74 = .ok (.getfield 13, 3) := by decide +kernel
theorem d_MessageCoderModel_joins_77 : decode prog_14_method_10_code 77 = .ok (.iload 4, 2) := by decide +kernel
theorem d_MessageCoderModel_joins_79 : decode prog_14_method_10_code 79 = .ok (.dup2, 1) := by decide +kernel
theorem d_MessageCoderModel_joins_80 : decode prog_14_method_10_code 80 = .ok (.iaload, 1) := by decide +kernel
theorem d_MessageCoderModel_joins_81 : decode prog_14_method_10_code 81 = .ok (.iconst 1, 1) := by decide +kernel
theorem d_MessageCoderModel_joins_82 : decode prog_14_method_10_code 82 = .ok (.iadd, 1) := by decide +kernel
theorem d_MessageCoderModel_joins_83 : decode prog_14_method_10_code 83 = .ok (.iastore, 1) := by decide +kernel
theorem d_MessageCoderModel_joins_84 : decode prog_14_method_10_code 84 = .ok (.iinc 4 1, 3) := by decide +kernel
theorem d_MessageCoderModel_joins_87 : decode prog_14_method_10_code 87 = .ok (.goto (-54), 3) := by decide +kernel
theorem d_MessageCoderModel_joins_90 : decode prog_14_method_10_code 90 = .ok (.return_, 1) := by decide +kernel
set_option maxHeartbeats 4000000 in
set_option maxRecDepth 20000 in
theorem c_MessageCoderModel_joins {P : xP} {F : xF} {z : Nat} {m : Nat} {th : Nat} {ch : Nat} {sv : Nat} {rs : Int32} {bm : Nat} {dm : Nat} {lz : Nat} {ty : Nat} {he : Nat} {er : Int32} {ea : Int32} {fa : Int32} {cn : Nat} {ln : Nat → Nat} {gr : Nat → Nat} {gw : Nat → Nat} {a : Nat} {b : Nat} (o0 : F (m) = some (.inl (10, [.int (nI (th)), .ref (m + 1), .int (nI (ch)), .int (nI (sv)), .int rs, .ref (m + 2), .ref (m + 3), .ref (m + 4), .ref (m + 5), .ref (m + 6), .int (nI (bm)), .ref (m + 7), .int (nI (dm)), .ref (m + 8), .ref (m + 9), .int (nI (lz)), .ref (m + 10), .int (nI (ty)), .int (nI (he)), .int er, .int ea, .int fa, .ref (m + 11), .int (nI (cn))]))) (h2 : F (m + 2) = some (.inr (0, 8, fun b9 => .int (nI (ln b9))))) (h4 : F (m + 4) = some (.inr (0, 8, fun b9 => .int (nI (gr b9))))) (h5 : F (m + 5) = some (.inr (0, 8, fun b9 => .int (nI (gw b9))))) (ha : a < 8) (hb : b < 8) (hgr : ∀ j, j < 8 → gr j < 8) (hln : ∀ j, j < 8 → ln j < 100) (hgw : ∀ j, j < 8 → gw j < 100000) : xM P xy_MessageCoderModel_joins [.ref m, .int (nI (a)), .int (nI (b))] F (z) 0 0 (fun r9 F9 z9 => ∃ ln1 : Nat → Nat, ∃ gr1 : Nat → Nat, r9 = none ∧ z9 = z ∧ F9 (m) = some (.inl (10, [.int (nI (th)), .ref (m + 1), .int (nI (ch)), .int (nI (sv)), .int rs, .ref (m + 2), .ref (m + 3), .ref (m + 4), .ref (m + 5), .ref (m + 6), .int (nI (bm)), .ref (m + 7), .int (nI (dm)), .ref (m + 8), .ref (m + 9), .int (nI (lz)), .ref (m + 10), .int (nI (ty)), .int (nI (he)), .int er, .int ea, .int fa, .ref (m + 11), .int (nI (cn))])) ∧ F9 (m + 2) = some (.inr (0, 8, fun b9 => .int (nI (ln1 b9)))) ∧ F9 (m + 4) = some (.inr (0, 8, fun b9 => .int (nI (gr1 b9)))) ∧ F9 (m + 5) = some (.inr (0, 8, fun b9 => .int (nI ((updN gw (min a b) (gw a + gw b)) b9)))) ∧ (∀ j, j < 8 → gr1 j = (if gr j = a ∨ gr j = b then min a b else gr j) ∧ ln1 j = (if gr j = a ∨ gr j = b then ln j + 1 else ln j)) ∧ (∀ a9 : Nat, (a9 < m + 2 ∨ m + 2 + 1 ≤ a9) → (a9 < m + 4 ∨ m + 4 + 2 ≤ a9) → F9 a9 = F a9)) := by
  refine xM_v rfl (Nat.le_of_ble_eq_true rfl) (L0 := [some (.ref m), some (.int (nI (a))), some (.int (nI (b))), none, none]) rfl rfl fun Θ hC hin hret => ?_
  have hag : ∀ a9 : Nat, (a9 < m + 2 ∨ m + 2 + 1 ≤ a9) → (a9 < m + 4 ∨ m + 4 + 2 ≤ a9) → F a9 = F a9 := fun a9 _ _ => rfl
  have hga := hgw a ha
  have hgb := hgw b hb
  refine x_iload_n hC d_MessageCoderModel_joins_0 rfl rfl ?_
  refine x_iload_n hC d_MessageCoderModel_joins_1 rfl rfl ?_
  refine x_icmpN_ge hC d_MessageCoderModel_joins_2 (tgt := 9) (by decide) (by omega) (by omega) (fun c_2 => ?_) (fun c_2 => ?_)
  · skip
    refine x_iload_n hC d_MessageCoderModel_joins_9 rfl rfl ?_
    refine x_top (v := (nI (min a b))) (congrArg nI (by omega)) ?_
    refine x_istore_n hC d_MessageCoderModel_joins_10 rfl (Nat.le_of_ble_eq_true rfl) (L1 := [some (.ref m), some (.int (nI (a))), some (.int (nI (b))), some (.int (nI (min a b))), none]) rfl ?_
    have hm8 : min a b < 8 := by omega
    refine x_aload_n hC d_MessageCoderModel_joins_11 rfl rfl ?_
    refine x_getf hC kf_MessageCoderModel_22 o0 rfl d_MessageCoderModel_joins_12 ?_
    refine x_iload_n hC d_MessageCoderModel_joins_15 rfl rfl ?_
    refine x_aload_n hC d_MessageCoderModel_joins_16 rfl rfl ?_
    refine x_getf hC kf_MessageCoderModel_22 o0 rfl d_MessageCoderModel_joins_17 ?_
    refine x_iload_n hC d_MessageCoderModel_joins_20 rfl rfl ?_
    refine x_iald hC h5 (j := a) ⟨rfl, by omega, by omega⟩ (x := nI (gw (a))) rfl d_MessageCoderModel_joins_21 ?_
    refine x_aload_n hC d_MessageCoderModel_joins_22 rfl rfl ?_
    refine x_getf hC kf_MessageCoderModel_22 o0 rfl d_MessageCoderModel_joins_23 ?_
    refine x_iload_n hC d_MessageCoderModel_joins_26 rfl rfl ?_
    refine x_iald hC h5 (j := b) ⟨rfl, by omega, by omega⟩ (x := nI (gw (b))) rfl d_MessageCoderModel_joins_27 ?_
    refine x_iadd hC d_MessageCoderModel_joins_28 (v := (nI ((gw (a)) + (gw (b))))) (x_addN (by omega)) ?_
    refine x_iast hC h5 (j := min a b) ⟨rfl, by omega, by omega⟩ d_MessageCoderModel_joins_29 (g1 := fun b9 => nI (updN gw (min a b) ((gw (a)) + (gw (b))) b9)) (x_updN _ _ _) ?_
    generalize egz : updN gw (min a b) ((gw (a)) + (gw (b))) = gz
    generalize e2 : xup F (m + 5) (.inr (0, 8, fun b9 => .int (nI (gz b9)))) = F2
    have o0 : F2 (m) = some (.inl (10, [.int (nI (th)), .ref (m + 1), .int (nI (ch)), .int (nI (sv)), .int rs, .ref (m + 2), .ref (m + 3), .ref (m + 4), .ref (m + 5), .ref (m + 6), .int (nI (bm)), .ref (m + 7), .int (nI (dm)), .ref (m + 8), .ref (m + 9), .int (nI (lz)), .ref (m + 10), .int (nI (ty)), .int (nI (he)), .int er, .int ea, .int fa, .ref (m + 11), .int (nI (cn))])) := by rw [← e2]; exact (xup_ne (by omega)).trans o0
    have h2 : F2 (m + 2) = some (.inr (0, 8, fun b9 => .int (nI (ln b9)))) := by rw [← e2]; exact (xup_ne (by omega)).trans h2
    have h4 : F2 (m + 4) = some (.inr (0, 8, fun b9 => .int (nI (gr b9)))) := by rw [← e2]; exact (xup_ne (by omega)).trans h4
    have h5 : F2 (m + 5) = some (.inr (0, 8, fun b9 => .int (nI (gz b9)))) := by rw [← e2]; exact xup_eq
    have hag : ∀ a9 : Nat, (a9 < m + 2 ∨ m + 2 + 1 ≤ a9) → (a9 < m + 4 ∨ m + 4 + 2 ≤ a9) → F2 a9 = F a9 := fun a9 q0 q1 => by rw [← e2]; exact (xup_ne (by omega)).trans (hag a9 q0 q1)
    subst egz
    refine x_iconst hC d_MessageCoderModel_joins_30 (v := nI 0) (by decide) ?_
    refine x_istore hC d_MessageCoderModel_joins_31 (Nat.le_of_ble_eq_true rfl) (L1 := [some (.ref m), some (.int (nI (a))), some (.int (nI (b))), some (.int (nI (min a b))), some (.int (nI 0))]) rfl ?_
    have loop_33 : ∀ (m9 : Nat) (Fh33 : xF) (i : Nat) (gr1 : Nat → Nat) (ln1 : Nat → Nat), (Fh33 (m) = some (.inl (10, [.int (nI (th)), .ref (m + 1), .int (nI (ch)), .int (nI (sv)), .int rs, .ref (m + 2), .ref (m + 3), .ref (m + 4), .ref (m + 5), .ref (m + 6), .int (nI (bm)), .ref (m + 7), .int (nI (dm)), .ref (m + 8), .ref (m + 9), .int (nI (lz)), .ref (m + 10), .int (nI (ty)), .int (nI (he)), .int er, .int ea, .int fa, .ref (m + 11), .int (nI (cn))]))) → (Fh33 (m + 2) = some (.inr (0, 8, fun b9 => .int (nI (ln1 b9))))) → (Fh33 (m + 4) = some (.inr (0, 8, fun b9 => .int (nI (gr1 b9))))) → (Fh33 (m + 5) = some (.inr (0, 8, fun b9 => .int (nI ((updN gw (min a b) (gw a + gw b)) b9))))) → (∀ a9 : Nat, (a9 < m + 2 ∨ m + 2 + 1 ≤ a9) → (a9 < m + 4 ∨ m + 4 + 2 ≤ a9) → Fh33 a9 = F a9) → (i ≤ 8) → (∀ j, i ≤ j → j < 8 → gr1 j = gr j) → (∀ j, i ≤ j → j < 8 → ln1 j = ln j) → (∀ j, j < i → gr1 j = (if gr j = a ∨ gr j = b then min a b else gr j) ∧ ln1 j = (if gr j = a ∨ gr j = b then ln j + 1 else ln j)) → (8 - i < m9) → xX P Θ 33 [some (.ref m), some (.int (nI (a))), some (.int (nI (b))), some (.int (nI (min a b))), some (.int (nI (i)))] [] Fh33 (z) 0 0 := by
      intro m9
      induction m9 with
      | zero => intros; omega
      | succ m9 ih_33 =>
        intro Fh33 i gr1 ln1 o0 h2 h4 h5 hag hi kh kl kd hm_33
        refine x_iload hC d_MessageCoderModel_joins_33 rfl ?_
        refine x_bipush hC d_MessageCoderModel_joins_35 (v := nI 8) (by decide) ?_
        refine x_icmpN_ge hC d_MessageCoderModel_joins_37 (tgt := 90) (by decide) (by omega) (by omega) (fun c_37 => ?_) (fun c_37 => ?_)
        · skip
          exact hret _ _ _ _ _ _ d_MessageCoderModel_joins_90 (by decide) (by decide) (⟨ln1, gr1, rfl, rfl, o0, h2, h4, h5, fun j hj => kd j (by omega), hag⟩)
        · skip
          have hbi := hgr i (by omega)
          have hbl := hln i (by omega)
          have hgi : gr1 i = gr i := kh i (by omega) (by omega)
          have hli : ln1 i = ln i := kl i (by omega) (by omega)
          refine x_aload_n hC d_MessageCoderModel_joins_40 rfl rfl ?_
          refine x_getf hC kf_MessageCoderModel_19 o0 rfl d_MessageCoderModel_joins_41 ?_
          refine x_iload hC d_MessageCoderModel_joins_44 rfl ?_
          refine x_iald hC h4 (j := i) ⟨rfl, by omega, by omega⟩ (x := nI (gr1 (i))) rfl d_MessageCoderModel_joins_46 ?_
          refine x_iload_n hC d_MessageCoderModel_joins_47 rfl rfl ?_
          refine x_icmpN_eq hC d_MessageCoderModel_joins_48 (tgt := 65) (by decide) (by omega) (by omega) (fun c_48 => ?_) (fun c_48 => ?_)
          · skip
            refine x_aload_n hC d_MessageCoderModel_joins_65 rfl rfl ?_
            refine x_getf hC kf_MessageCoderModel_19 o0 rfl d_MessageCoderModel_joins_66 ?_
            refine x_iload hC d_MessageCoderModel_joins_69 rfl ?_
            refine x_iload_n hC d_MessageCoderModel_joins_71 rfl rfl ?_
            refine x_iast hC h4 (j := i) ⟨rfl, by omega, by omega⟩ d_MessageCoderModel_joins_72 (g1 := fun b9 => nI (updN gr1 (i) (min a b) b9)) (x_updN _ _ _) ?_
            generalize egp : updN gr1 (i) (min a b) = gp
            generalize e4 : xup Fh33 (m + 4) (.inr (0, 8, fun b9 => .int (nI (gp b9)))) = F4
            have o0 : F4 (m) = some (.inl (10, [.int (nI (th)), .ref (m + 1), .int (nI (ch)), .int (nI (sv)), .int rs, .ref (m + 2), .ref (m + 3), .ref (m + 4), .ref (m + 5), .ref (m + 6), .int (nI (bm)), .ref (m + 7), .int (nI (dm)), .ref (m + 8), .ref (m + 9), .int (nI (lz)), .ref (m + 10), .int (nI (ty)), .int (nI (he)), .int er, .int ea, .int fa, .ref (m + 11), .int (nI (cn))])) := by rw [← e4]; exact (xup_ne (by omega)).trans o0
            have h2 : F4 (m + 2) = some (.inr (0, 8, fun b9 => .int (nI (ln1 b9)))) := by rw [← e4]; exact (xup_ne (by omega)).trans h2
            have h4 : F4 (m + 4) = some (.inr (0, 8, fun b9 => .int (nI (gp b9)))) := by rw [← e4]; exact xup_eq
            have h5 : F4 (m + 5) = some (.inr (0, 8, fun b9 => .int (nI ((updN gw (min a b) (gw a + gw b)) b9)))) := by rw [← e4]; exact (xup_ne (by omega)).trans h5
            have hag : ∀ a9 : Nat, (a9 < m + 2 ∨ m + 2 + 1 ≤ a9) → (a9 < m + 4 ∨ m + 4 + 2 ≤ a9) → F4 a9 = F a9 := fun a9 q0 q1 => by rw [← e4]; exact (xup_ne (by omega)).trans (hag a9 q0 q1)
            refine x_aload_n hC d_MessageCoderModel_joins_73 rfl rfl ?_
            refine x_getf hC kf_MessageCoderModel_13 o0 rfl d_MessageCoderModel_joins_74 ?_
            refine x_iload hC d_MessageCoderModel_joins_77 rfl ?_
            refine x_dup2 hC d_MessageCoderModel_joins_79 rfl rfl ?_
            refine x_iald hC h2 (j := i) ⟨rfl, by omega, by omega⟩ (x := nI (ln1 (i))) rfl d_MessageCoderModel_joins_80 ?_
            refine x_iconst hC d_MessageCoderModel_joins_81 (v := nI 1) (by decide) ?_
            refine x_iadd hC d_MessageCoderModel_joins_82 (v := (nI (ln1 (i) + 1))) (x_addN (by omega)) ?_
            refine x_iast hC h2 (j := i) ⟨rfl, by omega, by omega⟩ d_MessageCoderModel_joins_83 (g1 := fun b9 => nI (updN ln1 (i) (ln1 (i) + 1) b9)) (x_updN _ _ _) ?_
            generalize egl : updN ln1 (i) (ln1 (i) + 1) = gl
            generalize e6 : xup F4 (m + 2) (.inr (0, 8, fun b9 => .int (nI (gl b9)))) = F6
            have o0 : F6 (m) = some (.inl (10, [.int (nI (th)), .ref (m + 1), .int (nI (ch)), .int (nI (sv)), .int rs, .ref (m + 2), .ref (m + 3), .ref (m + 4), .ref (m + 5), .ref (m + 6), .int (nI (bm)), .ref (m + 7), .int (nI (dm)), .ref (m + 8), .ref (m + 9), .int (nI (lz)), .ref (m + 10), .int (nI (ty)), .int (nI (he)), .int er, .int ea, .int fa, .ref (m + 11), .int (nI (cn))])) := by rw [← e6]; exact (xup_ne (by omega)).trans o0
            have h2 : F6 (m + 2) = some (.inr (0, 8, fun b9 => .int (nI (gl b9)))) := by rw [← e6]; exact xup_eq
            have h4 : F6 (m + 4) = some (.inr (0, 8, fun b9 => .int (nI (gp b9)))) := by rw [← e6]; exact (xup_ne (by omega)).trans h4
            have h5 : F6 (m + 5) = some (.inr (0, 8, fun b9 => .int (nI ((updN gw (min a b) (gw a + gw b)) b9)))) := by rw [← e6]; exact (xup_ne (by omega)).trans h5
            have hag : ∀ a9 : Nat, (a9 < m + 2 ∨ m + 2 + 1 ≤ a9) → (a9 < m + 4 ∨ m + 4 + 2 ≤ a9) → F6 a9 = F a9 := fun a9 q0 q1 => by rw [← e6]; exact (xup_ne (by omega)).trans (hag a9 q0 q1)
            refine x_iinc hC d_MessageCoderModel_joins_84 rfl (v := (nI (i + 1))) (x_incN 1) (Nat.le_of_ble_eq_true rfl) (L1 := [some (.ref m), some (.int (nI (a))), some (.int (nI (b))), some (.int (nI (min a b))), some (.int (nI (i + 1)))]) rfl ?_
            refine x_goto hC d_MessageCoderModel_joins_87 (tgt := 33) (by decide) ?_
            exact ih_33 F6 (i + 1) (gp) (gl) o0 h2 h4 h5 hag (by omega) (fun j hj hj8 => by first | exact kh j (by omega) hj8 | (rw [← egp, updN_ne (by omega)]; exact kh j (by omega) hj8)) (fun j hj hj8 => by first | exact kl j (by omega) hj8 | (rw [← egl, updN_ne (by omega)]; exact kl j (by omega) hj8)) (fun j hj => (Nat.lt_or_ge j i).elim (fun q => by first | exact kd j q | (rw [← egp, ← egl, updN_ne (by omega), updN_ne (by omega)]; exact kd j q)) (fun q => by obtain rfl : j = i := (by omega); first | (rw [← egp, ← egl, updN_eq, updN_eq, if_pos (by omega), if_pos (by omega)]; exact ⟨rfl, by rw [hli]⟩) | (rw [if_neg (by omega), if_neg (by omega)]; exact ⟨hgi, hli⟩))) (by omega)
          · skip
            refine x_aload_n hC d_MessageCoderModel_joins_51 rfl rfl ?_
            refine x_getf hC kf_MessageCoderModel_19 o0 rfl d_MessageCoderModel_joins_52 ?_
            refine x_iload hC d_MessageCoderModel_joins_55 rfl ?_
            refine x_iald hC h4 (j := i) ⟨rfl, by omega, by omega⟩ (x := nI (gr1 (i))) rfl d_MessageCoderModel_joins_57 ?_
            refine x_iload_n hC d_MessageCoderModel_joins_58 rfl rfl ?_
            refine x_icmpN_eq hC d_MessageCoderModel_joins_59 (tgt := 65) (by decide) (by omega) (by omega) (fun c_59 => ?_) (fun c_59 => ?_)
            · skip
              refine x_aload_n hC d_MessageCoderModel_joins_65 rfl rfl ?_
              refine x_getf hC kf_MessageCoderModel_19 o0 rfl d_MessageCoderModel_joins_66 ?_
              refine x_iload hC d_MessageCoderModel_joins_69 rfl ?_
              refine x_iload_n hC d_MessageCoderModel_joins_71 rfl rfl ?_
              refine x_iast hC h4 (j := i) ⟨rfl, by omega, by omega⟩ d_MessageCoderModel_joins_72 (g1 := fun b9 => nI (updN gr1 (i) (min a b) b9)) (x_updN _ _ _) ?_
              generalize egp : updN gr1 (i) (min a b) = gp
              generalize e8 : xup Fh33 (m + 4) (.inr (0, 8, fun b9 => .int (nI (gp b9)))) = F8
              have o0 : F8 (m) = some (.inl (10, [.int (nI (th)), .ref (m + 1), .int (nI (ch)), .int (nI (sv)), .int rs, .ref (m + 2), .ref (m + 3), .ref (m + 4), .ref (m + 5), .ref (m + 6), .int (nI (bm)), .ref (m + 7), .int (nI (dm)), .ref (m + 8), .ref (m + 9), .int (nI (lz)), .ref (m + 10), .int (nI (ty)), .int (nI (he)), .int er, .int ea, .int fa, .ref (m + 11), .int (nI (cn))])) := by rw [← e8]; exact (xup_ne (by omega)).trans o0
              have h2 : F8 (m + 2) = some (.inr (0, 8, fun b9 => .int (nI (ln1 b9)))) := by rw [← e8]; exact (xup_ne (by omega)).trans h2
              have h4 : F8 (m + 4) = some (.inr (0, 8, fun b9 => .int (nI (gp b9)))) := by rw [← e8]; exact xup_eq
              have h5 : F8 (m + 5) = some (.inr (0, 8, fun b9 => .int (nI ((updN gw (min a b) (gw a + gw b)) b9)))) := by rw [← e8]; exact (xup_ne (by omega)).trans h5
              have hag : ∀ a9 : Nat, (a9 < m + 2 ∨ m + 2 + 1 ≤ a9) → (a9 < m + 4 ∨ m + 4 + 2 ≤ a9) → F8 a9 = F a9 := fun a9 q0 q1 => by rw [← e8]; exact (xup_ne (by omega)).trans (hag a9 q0 q1)
              refine x_aload_n hC d_MessageCoderModel_joins_73 rfl rfl ?_
              refine x_getf hC kf_MessageCoderModel_13 o0 rfl d_MessageCoderModel_joins_74 ?_
              refine x_iload hC d_MessageCoderModel_joins_77 rfl ?_
              refine x_dup2 hC d_MessageCoderModel_joins_79 rfl rfl ?_
              refine x_iald hC h2 (j := i) ⟨rfl, by omega, by omega⟩ (x := nI (ln1 (i))) rfl d_MessageCoderModel_joins_80 ?_
              refine x_iconst hC d_MessageCoderModel_joins_81 (v := nI 1) (by decide) ?_
              refine x_iadd hC d_MessageCoderModel_joins_82 (v := (nI (ln1 (i) + 1))) (x_addN (by omega)) ?_
              refine x_iast hC h2 (j := i) ⟨rfl, by omega, by omega⟩ d_MessageCoderModel_joins_83 (g1 := fun b9 => nI (updN ln1 (i) (ln1 (i) + 1) b9)) (x_updN _ _ _) ?_
              generalize egl : updN ln1 (i) (ln1 (i) + 1) = gl
              generalize e10 : xup F8 (m + 2) (.inr (0, 8, fun b9 => .int (nI (gl b9)))) = F10
              have o0 : F10 (m) = some (.inl (10, [.int (nI (th)), .ref (m + 1), .int (nI (ch)), .int (nI (sv)), .int rs, .ref (m + 2), .ref (m + 3), .ref (m + 4), .ref (m + 5), .ref (m + 6), .int (nI (bm)), .ref (m + 7), .int (nI (dm)), .ref (m + 8), .ref (m + 9), .int (nI (lz)), .ref (m + 10), .int (nI (ty)), .int (nI (he)), .int er, .int ea, .int fa, .ref (m + 11), .int (nI (cn))])) := by rw [← e10]; exact (xup_ne (by omega)).trans o0
              have h2 : F10 (m + 2) = some (.inr (0, 8, fun b9 => .int (nI (gl b9)))) := by rw [← e10]; exact xup_eq
              have h4 : F10 (m + 4) = some (.inr (0, 8, fun b9 => .int (nI (gp b9)))) := by rw [← e10]; exact (xup_ne (by omega)).trans h4
              have h5 : F10 (m + 5) = some (.inr (0, 8, fun b9 => .int (nI ((updN gw (min a b) (gw a + gw b)) b9)))) := by rw [← e10]; exact (xup_ne (by omega)).trans h5
              have hag : ∀ a9 : Nat, (a9 < m + 2 ∨ m + 2 + 1 ≤ a9) → (a9 < m + 4 ∨ m + 4 + 2 ≤ a9) → F10 a9 = F a9 := fun a9 q0 q1 => by rw [← e10]; exact (xup_ne (by omega)).trans (hag a9 q0 q1)
              refine x_iinc hC d_MessageCoderModel_joins_84 rfl (v := (nI (i + 1))) (x_incN 1) (Nat.le_of_ble_eq_true rfl) (L1 := [some (.ref m), some (.int (nI (a))), some (.int (nI (b))), some (.int (nI (min a b))), some (.int (nI (i + 1)))]) rfl ?_
              refine x_goto hC d_MessageCoderModel_joins_87 (tgt := 33) (by decide) ?_
              exact ih_33 F10 (i + 1) (gp) (gl) o0 h2 h4 h5 hag (by omega) (fun j hj hj8 => by first | exact kh j (by omega) hj8 | (rw [← egp, updN_ne (by omega)]; exact kh j (by omega) hj8)) (fun j hj hj8 => by first | exact kl j (by omega) hj8 | (rw [← egl, updN_ne (by omega)]; exact kl j (by omega) hj8)) (fun j hj => (Nat.lt_or_ge j i).elim (fun q => by first | exact kd j q | (rw [← egp, ← egl, updN_ne (by omega), updN_ne (by omega)]; exact kd j q)) (fun q => by obtain rfl : j = i := (by omega); first | (rw [← egp, ← egl, updN_eq, updN_eq, if_pos (by omega), if_pos (by omega)]; exact ⟨rfl, by rw [hli]⟩) | (rw [if_neg (by omega), if_neg (by omega)]; exact ⟨hgi, hli⟩))) (by omega)
            · skip
              refine x_goto hC d_MessageCoderModel_joins_62 (tgt := 84) (by decide) ?_
              refine x_iinc hC d_MessageCoderModel_joins_84 rfl (v := (nI (i + 1))) (x_incN 1) (Nat.le_of_ble_eq_true rfl) (L1 := [some (.ref m), some (.int (nI (a))), some (.int (nI (b))), some (.int (nI (min a b))), some (.int (nI (i + 1)))]) rfl ?_
              refine x_goto hC d_MessageCoderModel_joins_87 (tgt := 33) (by decide) ?_
              exact ih_33 Fh33 (i + 1) (gr1) (ln1) o0 h2 h4 h5 hag (by omega) (fun j hj hj8 => by first | exact kh j (by omega) hj8 | (rw [← egp, updN_ne (by omega)]; exact kh j (by omega) hj8)) (fun j hj hj8 => by first | exact kl j (by omega) hj8 | (rw [← egl, updN_ne (by omega)]; exact kl j (by omega) hj8)) (fun j hj => (Nat.lt_or_ge j i).elim (fun q => by first | exact kd j q | (rw [← egp, ← egl, updN_ne (by omega), updN_ne (by omega)]; exact kd j q)) (fun q => by obtain rfl : j = i := (by omega); first | (rw [← egp, ← egl, updN_eq, updN_eq, if_pos (by omega), if_pos (by omega)]; exact ⟨rfl, by rw [hli]⟩) | (rw [if_neg (by omega), if_neg (by omega)]; exact ⟨hgi, hli⟩))) (by omega)
    exact loop_33 (8 - 0 + 1) F2 (0) (gr) (ln) o0 h2 h4 h5 hag (by omega) (fun _ _ _ => rfl) (fun _ _ _ => rfl) (fun _ hj => absurd hj (by omega)) (by omega)
  · skip
    refine x_iload_n hC d_MessageCoderModel_joins_5 rfl rfl ?_
    refine x_goto hC d_MessageCoderModel_joins_6 (tgt := 10) (by decide) ?_
    refine x_top (v := (nI (min a b))) (congrArg nI (by omega)) ?_
    refine x_istore_n hC d_MessageCoderModel_joins_10 rfl (Nat.le_of_ble_eq_true rfl) (L1 := [some (.ref m), some (.int (nI (a))), some (.int (nI (b))), some (.int (nI (min a b))), none]) rfl ?_
    have hm8 : min a b < 8 := by omega
    refine x_aload_n hC d_MessageCoderModel_joins_11 rfl rfl ?_
    refine x_getf hC kf_MessageCoderModel_22 o0 rfl d_MessageCoderModel_joins_12 ?_
    refine x_iload_n hC d_MessageCoderModel_joins_15 rfl rfl ?_
    refine x_aload_n hC d_MessageCoderModel_joins_16 rfl rfl ?_
    refine x_getf hC kf_MessageCoderModel_22 o0 rfl d_MessageCoderModel_joins_17 ?_
    refine x_iload_n hC d_MessageCoderModel_joins_20 rfl rfl ?_
    refine x_iald hC h5 (j := a) ⟨rfl, by omega, by omega⟩ (x := nI (gw (a))) rfl d_MessageCoderModel_joins_21 ?_
    refine x_aload_n hC d_MessageCoderModel_joins_22 rfl rfl ?_
    refine x_getf hC kf_MessageCoderModel_22 o0 rfl d_MessageCoderModel_joins_23 ?_
    refine x_iload_n hC d_MessageCoderModel_joins_26 rfl rfl ?_
    refine x_iald hC h5 (j := b) ⟨rfl, by omega, by omega⟩ (x := nI (gw (b))) rfl d_MessageCoderModel_joins_27 ?_
    refine x_iadd hC d_MessageCoderModel_joins_28 (v := (nI ((gw (a)) + (gw (b))))) (x_addN (by omega)) ?_
    refine x_iast hC h5 (j := min a b) ⟨rfl, by omega, by omega⟩ d_MessageCoderModel_joins_29 (g1 := fun b9 => nI (updN gw (min a b) ((gw (a)) + (gw (b))) b9)) (x_updN _ _ _) ?_
    generalize egz : updN gw (min a b) ((gw (a)) + (gw (b))) = gz
    generalize e12 : xup F (m + 5) (.inr (0, 8, fun b9 => .int (nI (gz b9)))) = F12
    have o0 : F12 (m) = some (.inl (10, [.int (nI (th)), .ref (m + 1), .int (nI (ch)), .int (nI (sv)), .int rs, .ref (m + 2), .ref (m + 3), .ref (m + 4), .ref (m + 5), .ref (m + 6), .int (nI (bm)), .ref (m + 7), .int (nI (dm)), .ref (m + 8), .ref (m + 9), .int (nI (lz)), .ref (m + 10), .int (nI (ty)), .int (nI (he)), .int er, .int ea, .int fa, .ref (m + 11), .int (nI (cn))])) := by rw [← e12]; exact (xup_ne (by omega)).trans o0
    have h2 : F12 (m + 2) = some (.inr (0, 8, fun b9 => .int (nI (ln b9)))) := by rw [← e12]; exact (xup_ne (by omega)).trans h2
    have h4 : F12 (m + 4) = some (.inr (0, 8, fun b9 => .int (nI (gr b9)))) := by rw [← e12]; exact (xup_ne (by omega)).trans h4
    have h5 : F12 (m + 5) = some (.inr (0, 8, fun b9 => .int (nI (gz b9)))) := by rw [← e12]; exact xup_eq
    have hag : ∀ a9 : Nat, (a9 < m + 2 ∨ m + 2 + 1 ≤ a9) → (a9 < m + 4 ∨ m + 4 + 2 ≤ a9) → F12 a9 = F a9 := fun a9 q0 q1 => by rw [← e12]; exact (xup_ne (by omega)).trans (hag a9 q0 q1)
    subst egz
    refine x_iconst hC d_MessageCoderModel_joins_30 (v := nI 0) (by decide) ?_
    refine x_istore hC d_MessageCoderModel_joins_31 (Nat.le_of_ble_eq_true rfl) (L1 := [some (.ref m), some (.int (nI (a))), some (.int (nI (b))), some (.int (nI (min a b))), some (.int (nI 0))]) rfl ?_
    have loop_33 : ∀ (m9 : Nat) (Fh33 : xF) (i : Nat) (gr1 : Nat → Nat) (ln1 : Nat → Nat), (Fh33 (m) = some (.inl (10, [.int (nI (th)), .ref (m + 1), .int (nI (ch)), .int (nI (sv)), .int rs, .ref (m + 2), .ref (m + 3), .ref (m + 4), .ref (m + 5), .ref (m + 6), .int (nI (bm)), .ref (m + 7), .int (nI (dm)), .ref (m + 8), .ref (m + 9), .int (nI (lz)), .ref (m + 10), .int (nI (ty)), .int (nI (he)), .int er, .int ea, .int fa, .ref (m + 11), .int (nI (cn))]))) → (Fh33 (m + 2) = some (.inr (0, 8, fun b9 => .int (nI (ln1 b9))))) → (Fh33 (m + 4) = some (.inr (0, 8, fun b9 => .int (nI (gr1 b9))))) → (Fh33 (m + 5) = some (.inr (0, 8, fun b9 => .int (nI ((updN gw (min a b) (gw a + gw b)) b9))))) → (∀ a9 : Nat, (a9 < m + 2 ∨ m + 2 + 1 ≤ a9) → (a9 < m + 4 ∨ m + 4 + 2 ≤ a9) → Fh33 a9 = F a9) → (i ≤ 8) → (∀ j, i ≤ j → j < 8 → gr1 j = gr j) → (∀ j, i ≤ j → j < 8 → ln1 j = ln j) → (∀ j, j < i → gr1 j = (if gr j = a ∨ gr j = b then min a b else gr j) ∧ ln1 j = (if gr j = a ∨ gr j = b then ln j + 1 else ln j)) → (8 - i < m9) → xX P Θ 33 [some (.ref m), some (.int (nI (a))), some (.int (nI (b))), some (.int (nI (min a b))), some (.int (nI (i)))] [] Fh33 (z) 0 0 := by
      intro m9
      induction m9 with
      | zero => intros; omega
      | succ m9 ih_33 =>
        intro Fh33 i gr1 ln1 o0 h2 h4 h5 hag hi kh kl kd hm_33
        refine x_iload hC d_MessageCoderModel_joins_33 rfl ?_
        refine x_bipush hC d_MessageCoderModel_joins_35 (v := nI 8) (by decide) ?_
        refine x_icmpN_ge hC d_MessageCoderModel_joins_37 (tgt := 90) (by decide) (by omega) (by omega) (fun c_37 => ?_) (fun c_37 => ?_)
        · skip
          exact hret _ _ _ _ _ _ d_MessageCoderModel_joins_90 (by decide) (by decide) (⟨ln1, gr1, rfl, rfl, o0, h2, h4, h5, fun j hj => kd j (by omega), hag⟩)
        · skip
          have hbi := hgr i (by omega)
          have hbl := hln i (by omega)
          have hgi : gr1 i = gr i := kh i (by omega) (by omega)
          have hli : ln1 i = ln i := kl i (by omega) (by omega)
          refine x_aload_n hC d_MessageCoderModel_joins_40 rfl rfl ?_
          refine x_getf hC kf_MessageCoderModel_19 o0 rfl d_MessageCoderModel_joins_41 ?_
          refine x_iload hC d_MessageCoderModel_joins_44 rfl ?_
          refine x_iald hC h4 (j := i) ⟨rfl, by omega, by omega⟩ (x := nI (gr1 (i))) rfl d_MessageCoderModel_joins_46 ?_
          refine x_iload_n hC d_MessageCoderModel_joins_47 rfl rfl ?_
          refine x_icmpN_eq hC d_MessageCoderModel_joins_48 (tgt := 65) (by decide) (by omega) (by omega) (fun c_48 => ?_) (fun c_48 => ?_)
          · skip
            refine x_aload_n hC d_MessageCoderModel_joins_65 rfl rfl ?_
            refine x_getf hC kf_MessageCoderModel_19 o0 rfl d_MessageCoderModel_joins_66 ?_
            refine x_iload hC d_MessageCoderModel_joins_69 rfl ?_
            refine x_iload_n hC d_MessageCoderModel_joins_71 rfl rfl ?_
            refine x_iast hC h4 (j := i) ⟨rfl, by omega, by omega⟩ d_MessageCoderModel_joins_72 (g1 := fun b9 => nI (updN gr1 (i) (min a b) b9)) (x_updN _ _ _) ?_
            generalize egp : updN gr1 (i) (min a b) = gp
            generalize e14 : xup Fh33 (m + 4) (.inr (0, 8, fun b9 => .int (nI (gp b9)))) = F14
            have o0 : F14 (m) = some (.inl (10, [.int (nI (th)), .ref (m + 1), .int (nI (ch)), .int (nI (sv)), .int rs, .ref (m + 2), .ref (m + 3), .ref (m + 4), .ref (m + 5), .ref (m + 6), .int (nI (bm)), .ref (m + 7), .int (nI (dm)), .ref (m + 8), .ref (m + 9), .int (nI (lz)), .ref (m + 10), .int (nI (ty)), .int (nI (he)), .int er, .int ea, .int fa, .ref (m + 11), .int (nI (cn))])) := by rw [← e14]; exact (xup_ne (by omega)).trans o0
            have h2 : F14 (m + 2) = some (.inr (0, 8, fun b9 => .int (nI (ln1 b9)))) := by rw [← e14]; exact (xup_ne (by omega)).trans h2
            have h4 : F14 (m + 4) = some (.inr (0, 8, fun b9 => .int (nI (gp b9)))) := by rw [← e14]; exact xup_eq
            have h5 : F14 (m + 5) = some (.inr (0, 8, fun b9 => .int (nI ((updN gw (min a b) (gw a + gw b)) b9)))) := by rw [← e14]; exact (xup_ne (by omega)).trans h5
            have hag : ∀ a9 : Nat, (a9 < m + 2 ∨ m + 2 + 1 ≤ a9) → (a9 < m + 4 ∨ m + 4 + 2 ≤ a9) → F14 a9 = F a9 := fun a9 q0 q1 => by rw [← e14]; exact (xup_ne (by omega)).trans (hag a9 q0 q1)
            refine x_aload_n hC d_MessageCoderModel_joins_73 rfl rfl ?_
            refine x_getf hC kf_MessageCoderModel_13 o0 rfl d_MessageCoderModel_joins_74 ?_
            refine x_iload hC d_MessageCoderModel_joins_77 rfl ?_
            refine x_dup2 hC d_MessageCoderModel_joins_79 rfl rfl ?_
            refine x_iald hC h2 (j := i) ⟨rfl, by omega, by omega⟩ (x := nI (ln1 (i))) rfl d_MessageCoderModel_joins_80 ?_
            refine x_iconst hC d_MessageCoderModel_joins_81 (v := nI 1) (by decide) ?_
            refine x_iadd hC d_MessageCoderModel_joins_82 (v := (nI (ln1 (i) + 1))) (x_addN (by omega)) ?_
            refine x_iast hC h2 (j := i) ⟨rfl, by omega, by omega⟩ d_MessageCoderModel_joins_83 (g1 := fun b9 => nI (updN ln1 (i) (ln1 (i) + 1) b9)) (x_updN _ _ _) ?_
            generalize egl : updN ln1 (i) (ln1 (i) + 1) = gl
            generalize e16 : xup F14 (m + 2) (.inr (0, 8, fun b9 => .int (nI (gl b9)))) = F16
            have o0 : F16 (m) = some (.inl (10, [.int (nI (th)), .ref (m + 1), .int (nI (ch)), .int (nI (sv)), .int rs, .ref (m + 2), .ref (m + 3), .ref (m + 4), .ref (m + 5), .ref (m + 6), .int (nI (bm)), .ref (m + 7), .int (nI (dm)), .ref (m + 8), .ref (m + 9), .int (nI (lz)), .ref (m + 10), .int (nI (ty)), .int (nI (he)), .int er, .int ea, .int fa, .ref (m + 11), .int (nI (cn))])) := by rw [← e16]; exact (xup_ne (by omega)).trans o0
            have h2 : F16 (m + 2) = some (.inr (0, 8, fun b9 => .int (nI (gl b9)))) := by rw [← e16]; exact xup_eq
            have h4 : F16 (m + 4) = some (.inr (0, 8, fun b9 => .int (nI (gp b9)))) := by rw [← e16]; exact (xup_ne (by omega)).trans h4
            have h5 : F16 (m + 5) = some (.inr (0, 8, fun b9 => .int (nI ((updN gw (min a b) (gw a + gw b)) b9)))) := by rw [← e16]; exact (xup_ne (by omega)).trans h5
            have hag : ∀ a9 : Nat, (a9 < m + 2 ∨ m + 2 + 1 ≤ a9) → (a9 < m + 4 ∨ m + 4 + 2 ≤ a9) → F16 a9 = F a9 := fun a9 q0 q1 => by rw [← e16]; exact (xup_ne (by omega)).trans (hag a9 q0 q1)
            refine x_iinc hC d_MessageCoderModel_joins_84 rfl (v := (nI (i + 1))) (x_incN 1) (Nat.le_of_ble_eq_true rfl) (L1 := [some (.ref m), some (.int (nI (a))), some (.int (nI (b))), some (.int (nI (min a b))), some (.int (nI (i + 1)))]) rfl ?_
            refine x_goto hC d_MessageCoderModel_joins_87 (tgt := 33) (by decide) ?_
            exact ih_33 F16 (i + 1) (gp) (gl) o0 h2 h4 h5 hag (by omega) (fun j hj hj8 => by first | exact kh j (by omega) hj8 | (rw [← egp, updN_ne (by omega)]; exact kh j (by omega) hj8)) (fun j hj hj8 => by first | exact kl j (by omega) hj8 | (rw [← egl, updN_ne (by omega)]; exact kl j (by omega) hj8)) (fun j hj => (Nat.lt_or_ge j i).elim (fun q => by first | exact kd j q | (rw [← egp, ← egl, updN_ne (by omega), updN_ne (by omega)]; exact kd j q)) (fun q => by obtain rfl : j = i := (by omega); first | (rw [← egp, ← egl, updN_eq, updN_eq, if_pos (by omega), if_pos (by omega)]; exact ⟨rfl, by rw [hli]⟩) | (rw [if_neg (by omega), if_neg (by omega)]; exact ⟨hgi, hli⟩))) (by omega)
          · skip
            refine x_aload_n hC d_MessageCoderModel_joins_51 rfl rfl ?_
            refine x_getf hC kf_MessageCoderModel_19 o0 rfl d_MessageCoderModel_joins_52 ?_
            refine x_iload hC d_MessageCoderModel_joins_55 rfl ?_
            refine x_iald hC h4 (j := i) ⟨rfl, by omega, by omega⟩ (x := nI (gr1 (i))) rfl d_MessageCoderModel_joins_57 ?_
            refine x_iload_n hC d_MessageCoderModel_joins_58 rfl rfl ?_
            refine x_icmpN_eq hC d_MessageCoderModel_joins_59 (tgt := 65) (by decide) (by omega) (by omega) (fun c_59 => ?_) (fun c_59 => ?_)
            · skip
              refine x_aload_n hC d_MessageCoderModel_joins_65 rfl rfl ?_
              refine x_getf hC kf_MessageCoderModel_19 o0 rfl d_MessageCoderModel_joins_66 ?_
              refine x_iload hC d_MessageCoderModel_joins_69 rfl ?_
              refine x_iload_n hC d_MessageCoderModel_joins_71 rfl rfl ?_
              refine x_iast hC h4 (j := i) ⟨rfl, by omega, by omega⟩ d_MessageCoderModel_joins_72 (g1 := fun b9 => nI (updN gr1 (i) (min a b) b9)) (x_updN _ _ _) ?_
              generalize egp : updN gr1 (i) (min a b) = gp
              generalize e18 : xup Fh33 (m + 4) (.inr (0, 8, fun b9 => .int (nI (gp b9)))) = F18
              have o0 : F18 (m) = some (.inl (10, [.int (nI (th)), .ref (m + 1), .int (nI (ch)), .int (nI (sv)), .int rs, .ref (m + 2), .ref (m + 3), .ref (m + 4), .ref (m + 5), .ref (m + 6), .int (nI (bm)), .ref (m + 7), .int (nI (dm)), .ref (m + 8), .ref (m + 9), .int (nI (lz)), .ref (m + 10), .int (nI (ty)), .int (nI (he)), .int er, .int ea, .int fa, .ref (m + 11), .int (nI (cn))])) := by rw [← e18]; exact (xup_ne (by omega)).trans o0
              have h2 : F18 (m + 2) = some (.inr (0, 8, fun b9 => .int (nI (ln1 b9)))) := by rw [← e18]; exact (xup_ne (by omega)).trans h2
              have h4 : F18 (m + 4) = some (.inr (0, 8, fun b9 => .int (nI (gp b9)))) := by rw [← e18]; exact xup_eq
              have h5 : F18 (m + 5) = some (.inr (0, 8, fun b9 => .int (nI ((updN gw (min a b) (gw a + gw b)) b9)))) := by rw [← e18]; exact (xup_ne (by omega)).trans h5
              have hag : ∀ a9 : Nat, (a9 < m + 2 ∨ m + 2 + 1 ≤ a9) → (a9 < m + 4 ∨ m + 4 + 2 ≤ a9) → F18 a9 = F a9 := fun a9 q0 q1 => by rw [← e18]; exact (xup_ne (by omega)).trans (hag a9 q0 q1)
              refine x_aload_n hC d_MessageCoderModel_joins_73 rfl rfl ?_
              refine x_getf hC kf_MessageCoderModel_13 o0 rfl d_MessageCoderModel_joins_74 ?_
              refine x_iload hC d_MessageCoderModel_joins_77 rfl ?_
              refine x_dup2 hC d_MessageCoderModel_joins_79 rfl rfl ?_
              refine x_iald hC h2 (j := i) ⟨rfl, by omega, by omega⟩ (x := nI (ln1 (i))) rfl d_MessageCoderModel_joins_80 ?_
              refine x_iconst hC d_MessageCoderModel_joins_81 (v := nI 1) (by decide) ?_
              refine x_iadd hC d_MessageCoderModel_joins_82 (v := (nI (ln1 (i) + 1))) (x_addN (by omega)) ?_
              refine x_iast hC h2 (j := i) ⟨rfl, by omega, by omega⟩ d_MessageCoderModel_joins_83 (g1 := fun b9 => nI (updN ln1 (i) (ln1 (i) + 1) b9)) (x_updN _ _ _) ?_
              generalize egl : updN ln1 (i) (ln1 (i) + 1) = gl
              generalize e20 : xup F18 (m + 2) (.inr (0, 8, fun b9 => .int (nI (gl b9)))) = F20
              have o0 : F20 (m) = some (.inl (10, [.int (nI (th)), .ref (m + 1), .int (nI (ch)), .int (nI (sv)), .int rs, .ref (m + 2), .ref (m + 3), .ref (m + 4), .ref (m + 5), .ref (m + 6), .int (nI (bm)), .ref (m + 7), .int (nI (dm)), .ref (m + 8), .ref (m + 9), .int (nI (lz)), .ref (m + 10), .int (nI (ty)), .int (nI (he)), .int er, .int ea, .int fa, .ref (m + 11), .int (nI (cn))])) := by rw [← e20]; exact (xup_ne (by omega)).trans o0
              have h2 : F20 (m + 2) = some (.inr (0, 8, fun b9 => .int (nI (gl b9)))) := by rw [← e20]; exact xup_eq
              have h4 : F20 (m + 4) = some (.inr (0, 8, fun b9 => .int (nI (gp b9)))) := by rw [← e20]; exact (xup_ne (by omega)).trans h4
              have h5 : F20 (m + 5) = some (.inr (0, 8, fun b9 => .int (nI ((updN gw (min a b) (gw a + gw b)) b9)))) := by rw [← e20]; exact (xup_ne (by omega)).trans h5
              have hag : ∀ a9 : Nat, (a9 < m + 2 ∨ m + 2 + 1 ≤ a9) → (a9 < m + 4 ∨ m + 4 + 2 ≤ a9) → F20 a9 = F a9 := fun a9 q0 q1 => by rw [← e20]; exact (xup_ne (by omega)).trans (hag a9 q0 q1)
              refine x_iinc hC d_MessageCoderModel_joins_84 rfl (v := (nI (i + 1))) (x_incN 1) (Nat.le_of_ble_eq_true rfl) (L1 := [some (.ref m), some (.int (nI (a))), some (.int (nI (b))), some (.int (nI (min a b))), some (.int (nI (i + 1)))]) rfl ?_
              refine x_goto hC d_MessageCoderModel_joins_87 (tgt := 33) (by decide) ?_
              exact ih_33 F20 (i + 1) (gp) (gl) o0 h2 h4 h5 hag (by omega) (fun j hj hj8 => by first | exact kh j (by omega) hj8 | (rw [← egp, updN_ne (by omega)]; exact kh j (by omega) hj8)) (fun j hj hj8 => by first | exact kl j (by omega) hj8 | (rw [← egl, updN_ne (by omega)]; exact kl j (by omega) hj8)) (fun j hj => (Nat.lt_or_ge j i).elim (fun q => by first | exact kd j q | (rw [← egp, ← egl, updN_ne (by omega), updN_ne (by omega)]; exact kd j q)) (fun q => by obtain rfl : j = i := (by omega); first | (rw [← egp, ← egl, updN_eq, updN_eq, if_pos (by omega), if_pos (by omega)]; exact ⟨rfl, by rw [hli]⟩) | (rw [if_neg (by omega), if_neg (by omega)]; exact ⟨hgi, hli⟩))) (by omega)
            · skip
              refine x_goto hC d_MessageCoderModel_joins_62 (tgt := 84) (by decide) ?_
              refine x_iinc hC d_MessageCoderModel_joins_84 rfl (v := (nI (i + 1))) (x_incN 1) (Nat.le_of_ble_eq_true rfl) (L1 := [some (.ref m), some (.int (nI (a))), some (.int (nI (b))), some (.int (nI (min a b))), some (.int (nI (i + 1)))]) rfl ?_
              refine x_goto hC d_MessageCoderModel_joins_87 (tgt := 33) (by decide) ?_
              exact ih_33 Fh33 (i + 1) (gr1) (ln1) o0 h2 h4 h5 hag (by omega) (fun j hj hj8 => by first | exact kh j (by omega) hj8 | (rw [← egp, updN_ne (by omega)]; exact kh j (by omega) hj8)) (fun j hj hj8 => by first | exact kl j (by omega) hj8 | (rw [← egl, updN_ne (by omega)]; exact kl j (by omega) hj8)) (fun j hj => (Nat.lt_or_ge j i).elim (fun q => by first | exact kd j q | (rw [← egp, ← egl, updN_ne (by omega), updN_ne (by omega)]; exact kd j q)) (fun q => by obtain rfl : j = i := (by omega); first | (rw [← egp, ← egl, updN_eq, updN_eq, if_pos (by omega), if_pos (by omega)]; exact ⟨rfl, by rw [hli]⟩) | (rw [if_neg (by omega), if_neg (by omega)]; exact ⟨hgi, hli⟩))) (by omega)
    exact loop_33 (8 - 0 + 1) F12 (0) (gr) (ln) o0 h2 h4 h5 hag (by omega) (fun _ _ _ => rfl) (fun _ _ _ => rfl) (fun _ hj => absurd hj (by omega)) (by omega)

theorem d_MessageCoderModel_rankOf_0 : decode prog_14_method_11_code 0 = .ok (.iconst 0, 1) := by decide +kernel
theorem d_MessageCoderModel_rankOf_1 : decode prog_14_method_11_code 1 = .ok (.istore_n 2, 1) := by decide +kernel
theorem d_MessageCoderModel_rankOf_2 : decode prog_14_method_11_code 2 = .ok (.iconst 0, 1) := by decide +kernel
theorem d_MessageCoderModel_rankOf_3 : decode prog_14_method_11_code 3 = .ok (.istore_n 3, 1) := by decide +kernel
theorem d_MessageCoderModel_rankOf_4 : decode prog_14_method_11_code 4 = .ok (.iload_n 3, 1) := by decide +kernel
theorem d_MessageCoderModel_rankOf_5 : decode prog_14_method_11_code 5 = .ok (.bipush 8, 2) := by decide +kernel
theorem d_MessageCoderModel_rankOf_7 : decode prog_14_method_11_code 7 = .ok (.if_icmp .ge 52, 3) := by decide +kernel
theorem d_MessageCoderModel_rankOf_10 : decode prog_14_method_11_code 10 = .ok (.iload_n 2, 1) := by decide +kernel
theorem d_MessageCoderModel_rankOf_11 : decode prog_14_method_11_code 11 = .ok (.aload_n 0, 1) := by decide +kernel
theorem d_MessageCoderModel_rankOf_12 : decode prog_14_method_11_code 12 = .ok (.getfield 13, 3) := by decide +kernel
theorem d_MessageCoderModel_rankOf_15 : decode prog_14_method_11_code 15 = .ok (.iload_n 3, 1) := by decide +kernel
theorem d_MessageCoderModel_rankOf_16 : decode prog_14_method_11_code 16 = .ok (.iaload, 1) := by decide +kernel
theorem d_MessageCoderModel_rankOf_17 : decode prog_14_method_11_code 17 = .ok (.aload_n 0, 1) := by decide +kernel
theorem d_MessageCoderModel_rankOf_18 : decode prog_14_method_11_code 18 = .ok (.getfield 13, 3) := by decide +kernel
theorem d_MessageCoderModel_rankOf_21 : decode prog_14_method_11_code 21 = .ok (.iload_n 1, 1) := by decide +kernel
theorem d_MessageCoderModel_rankOf_22 : decode prog_14_method_11_code 22 = .ok (.iaload, 1) := by decide +kernel
theorem d_MessageCoderModel_rankOf_23 : decode prog_14_method_11_code 23 = .ok (.if_icmp .lt 23, 3) := by decide +kernel
theorem d_MessageCoderModel_rankOf_26 : decode prog_14_method_11_code 26 = .ok (.aload_n 0, 1) := by decide +kernel
theorem d_MessageCoderModel_rankOf_27 : decode prog_14_method_11_code 27 = .ok (.getfield 13, 3) := by decide +kernel
theorem d_MessageCoderModel_rankOf_30 : decode prog_14_method_11_code 30 = .ok (.iload_n 3, 1) := by decide +kernel
theorem d_MessageCoderModel_rankOf_31 : decode prog_14_method_11_code 31 = .ok (.iaload, 1) := by decide +kernel
theorem d_MessageCoderModel_rankOf_32 : decode prog_14_method_11_code 32 = .ok (.aload_n 0, 1) := by decide +kernel
theorem d_MessageCoderModel_rankOf_33 : decode prog_14_method_11_code 33 = .ok (.getfield 13, 3) := by decide +kernel
theorem d_MessageCoderModel_rankOf_36 : decode prog_14_method_11_code 36 = .ok (.iload_n 1, 1) := by decide +kernel
theorem d_MessageCoderModel_rankOf_37 : decode prog_14_method_11_code 37 = .ok (.iaload, 1) := by decide +kernel
theorem d_MessageCoderModel_rankOf_38 : decode prog_14_method_11_code 38 = .ok (.if_icmp .ne 12, 3) := by decide +kernel
theorem d_MessageCoderModel_rankOf_41 : decode prog_14_method_11_code 41 = .ok (.iload_n 3, 1) := by decide +kernel
theorem d_MessageCoderModel_rankOf_42 : decode prog_14_method_11_code 42 = .ok (.iload_n 1, 1) := by decide +kernel
theorem d_MessageCoderModel_rankOf_43 : decode prog_14_method_11_code 43 = .ok (.if_icmp .ge 7, 3) := by decide +kernel
theorem d_MessageCoderModel_rankOf_46 : decode prog_14_method_11_code 46 = .ok (.iconst 1, 1) := by decide +kernel
theorem d_MessageCoderModel_rankOf_47 : decode prog_14_method_11_code 47 = .ok (.goto 4, 3) := by decide +kernel
theorem d_MessageCoderModel_rankOf_50 : decode prog_14_method_11_code 50 = .ok (.iconst 0, 1) := by decide +kernel
theorem d_MessageCoderModel_rankOf_51 : decode prog_14_method_11_code 51 = .ok (.iadd, 1) := by decide +kernel
theorem d_MessageCoderModel_rankOf_52 : decode prog_14_method_11_code 52 = .ok (.istore_n 2, 1) := by decide +kernel
theorem d_MessageCoderModel_rankOf_53 : decode prog_14_method_11_code 53 = .ok (.iinc 3 1, 3) := by decide +kernel
theorem d_MessageCoderModel_rankOf_56 : decode prog_14_method_11_code 56 = .ok (.goto (-52), 3) := by decide +kernel
theorem d_MessageCoderModel_rankOf_59 : decode prog_14_method_11_code 59 = .ok (.iload_n 2, 1) := by decide +kernel
theorem d_MessageCoderModel_rankOf_60 : decode prog_14_method_11_code 60 = .ok (.ireturn, 1) := by decide +kernel
set_option maxHeartbeats 4000000 in
set_option maxRecDepth 20000 in
theorem c_MessageCoderModel_rankOf {P : xP} {F : xF} {z : Nat} {m : Nat} {th : Nat} {ch : Nat} {sv : Nat} {rs : Int32} {bm : Nat} {dm : Nat} {lz : Nat} {ty : Nat} {he : Nat} {er : Int32} {ea : Int32} {fa : Int32} {cn : Nat} {l1 : Nat → Nat} {ln : Nat → Nat} {s : Nat} (o0 : F (m) = some (.inl (10, [.int (nI (th)), .ref (m + 1), .int (nI (ch)), .int (nI (sv)), .int rs, .ref (m + 2), .ref (m + 3), .ref (m + 4), .ref (m + 5), .ref (m + 6), .int (nI (bm)), .ref (m + 7), .int (nI (dm)), .ref (m + 8), .ref (m + 9), .int (nI (lz)), .ref (m + 10), .int (nI (ty)), .int (nI (he)), .int er, .int ea, .int fa, .ref (m + 11), .int (nI (cn))]))) (h2 : F (m + 2) = some (.inr (0, 8, fun b9 => .int (nI (l1 b9))))) (hl : ∀ j, j < 8 → l1 j = ln j) (hl7 : ∀ j, j < 8 → ln j ≤ 7) (hs : s < 8) : xM P xy_MessageCoderModel_rankOf [.ref m, .int (nI (s))] F (z) 0 0 (fun r9 F9 z9 => r9 = some (.int (nI (rkN ln s))) ∧ F9 = F ∧ z9 = z) := by
  refine xM_i .int rfl (Nat.le_of_ble_eq_true rfl) (L0 := [some (.ref m), some (.int (nI (s))), none, none]) rfl rfl fun Θ hC hret => ?_
  refine x_iconst hC d_MessageCoderModel_rankOf_0 (v := nI 0) (by decide) ?_
  refine x_istore_n hC d_MessageCoderModel_rankOf_1 rfl (Nat.le_of_ble_eq_true rfl) (L1 := [some (.ref m), some (.int (nI (s))), some (.int (nI 0)), none]) rfl ?_
  refine x_iconst hC d_MessageCoderModel_rankOf_2 (v := nI 0) (by decide) ?_
  refine x_istore_n hC d_MessageCoderModel_rankOf_3 rfl (Nat.le_of_ble_eq_true rfl) (L1 := [some (.ref m), some (.int (nI (s))), some (.int (nI 0)), some (.int (nI 0))]) rfl ?_
  have loop_4 : ∀ (m9 : Nat) (k : Nat) (q1 : Nat), (F (m) = some (.inl (10, [.int (nI (th)), .ref (m + 1), .int (nI (ch)), .int (nI (sv)), .int rs, .ref (m + 2), .ref (m + 3), .ref (m + 4), .ref (m + 5), .ref (m + 6), .int (nI (bm)), .ref (m + 7), .int (nI (dm)), .ref (m + 8), .ref (m + 9), .int (nI (lz)), .ref (m + 10), .int (nI (ty)), .int (nI (he)), .int er, .int ea, .int fa, .ref (m + 11), .int (nI (cn))]))) → (F (m + 2) = some (.inr (0, 8, fun b9 => .int (nI (l1 b9))))) → (k ≤ 8) → (q1 = cntN (fun i => bef ln i s) k) → (8 - k < m9) → xX P Θ 4 [some (.ref m), some (.int (nI (s))), some (.int (nI (q1))), some (.int (nI (k)))] [] F (z) 0 0 := by
    intro m9
    induction m9 with
    | zero => intros; omega
    | succ m9 ih_4 =>
      intro  k q1 o0 h2 hk kq hm_4
      have hq1 : q1 ≤ k := by rw [kq]; exact cntN_le _ k
      refine x_iload_n hC d_MessageCoderModel_rankOf_4 rfl rfl ?_
      refine x_bipush hC d_MessageCoderModel_rankOf_5 (v := nI 8) (by decide) ?_
      refine x_icmpN_ge hC d_MessageCoderModel_rankOf_7 (tgt := 59) (by decide) (by omega) (by omega) (fun c_7 => ?_) (fun c_7 => ?_)
      · skip
        refine x_iload_n hC d_MessageCoderModel_rankOf_59 rfl rfl ?_
        exact hret _ _ _ _ _ _ _ d_MessageCoderModel_rankOf_60 (by decide) (by decide) rfl (⟨by rw [kq, show k = 8 by omega]; rfl, rfl, rfl⟩)
      · skip
        refine x_iload_n hC d_MessageCoderModel_rankOf_10 rfl rfl ?_
        refine x_aload_n hC d_MessageCoderModel_rankOf_11 rfl rfl ?_
        have e1 := hl k (by omega)
        have e2 := hl s hs
        have b1 := hl7 k (by omega)
        have b2 := hl7 s hs
        refine x_getf hC kf_MessageCoderModel_13 o0 rfl d_MessageCoderModel_rankOf_12 ?_
        refine x_iload_n hC d_MessageCoderModel_rankOf_15 rfl rfl ?_
        refine x_iald hC h2 (j := k) ⟨rfl, by omega, by omega⟩ (x := nI (l1 (k))) rfl d_MessageCoderModel_rankOf_16 ?_
        refine x_aload_n hC d_MessageCoderModel_rankOf_17 rfl rfl ?_
        refine x_getf hC kf_MessageCoderModel_13 o0 rfl d_MessageCoderModel_rankOf_18 ?_
        refine x_iload_n hC d_MessageCoderModel_rankOf_21 rfl rfl ?_
        refine x_iald hC h2 (j := s) ⟨rfl, by omega, by omega⟩ (x := nI (l1 (s))) rfl d_MessageCoderModel_rankOf_22 ?_
        refine x_icmpN_lt hC d_MessageCoderModel_rankOf_23 (tgt := 46) (by decide) (by omega) (by omega) (fun c_23 => ?_) (fun c_23 => ?_)
        · skip
          refine x_iconst hC d_MessageCoderModel_rankOf_46 (v := nI 1) (by decide) ?_
          refine x_goto hC d_MessageCoderModel_rankOf_47 (tgt := 51) (by decide) ?_
          refine x_iadd hC d_MessageCoderModel_rankOf_51 (v := (nI (q1 + 1))) (x_addN (by omega)) ?_
          refine x_istore_n hC d_MessageCoderModel_rankOf_52 rfl (Nat.le_of_ble_eq_true rfl) (L1 := [some (.ref m), some (.int (nI (s))), some (.int (nI (q1 + 1))), some (.int (nI (k)))]) rfl ?_
          refine x_iinc hC d_MessageCoderModel_rankOf_53 rfl (v := (nI (k + 1))) (x_incN 1) (Nat.le_of_ble_eq_true rfl) (L1 := [some (.ref m), some (.int (nI (s))), some (.int (nI (q1 + 1))), some (.int (nI (k + 1)))]) rfl ?_
          refine x_goto hC d_MessageCoderModel_rankOf_56 (tgt := 4) (by decide) ?_
          exact ih_4  (k + 1) (q1 + 1) o0 h2 (by omega) (by first | (rw [kq]; exact (cntN_t (p := fun i => bef ln i s) (bef_iff.mpr (by omega))).symm) | (rw [kq]; exact (cntN_f (p := fun i => bef ln i s) (fun h9 => by have := bef_iff.mp h9; omega)).symm)) (by omega)
        · skip
          refine x_aload_n hC d_MessageCoderModel_rankOf_26 rfl rfl ?_
          refine x_getf hC kf_MessageCoderModel_13 o0 rfl d_MessageCoderModel_rankOf_27 ?_
          refine x_iload_n hC d_MessageCoderModel_rankOf_30 rfl rfl ?_
          refine x_iald hC h2 (j := k) ⟨rfl, by omega, by omega⟩ (x := nI (l1 (k))) rfl d_MessageCoderModel_rankOf_31 ?_
          refine x_aload_n hC d_MessageCoderModel_rankOf_32 rfl rfl ?_
          refine x_getf hC kf_MessageCoderModel_13 o0 rfl d_MessageCoderModel_rankOf_33 ?_
          refine x_iload_n hC d_MessageCoderModel_rankOf_36 rfl rfl ?_
          refine x_iald hC h2 (j := s) ⟨rfl, by omega, by omega⟩ (x := nI (l1 (s))) rfl d_MessageCoderModel_rankOf_37 ?_
          refine x_icmpN_ne hC d_MessageCoderModel_rankOf_38 (tgt := 50) (by decide) (by omega) (by omega) (fun c_38 => ?_) (fun c_38 => ?_)
          · skip
            refine x_iconst hC d_MessageCoderModel_rankOf_50 (v := nI 0) (by decide) ?_
            refine x_iadd hC d_MessageCoderModel_rankOf_51 (v := (nI (q1))) (x_addN (by omega)) ?_
            refine x_istore_n hC d_MessageCoderModel_rankOf_52 rfl (Nat.le_of_ble_eq_true rfl) (L1 := [some (.ref m), some (.int (nI (s))), some (.int (nI (q1))), some (.int (nI (k)))]) rfl ?_
            refine x_iinc hC d_MessageCoderModel_rankOf_53 rfl (v := (nI (k + 1))) (x_incN 1) (Nat.le_of_ble_eq_true rfl) (L1 := [some (.ref m), some (.int (nI (s))), some (.int (nI (q1))), some (.int (nI (k + 1)))]) rfl ?_
            refine x_goto hC d_MessageCoderModel_rankOf_56 (tgt := 4) (by decide) ?_
            exact ih_4  (k + 1) (q1) o0 h2 (by omega) (by first | (rw [kq]; exact (cntN_t (p := fun i => bef ln i s) (bef_iff.mpr (by omega))).symm) | (rw [kq]; exact (cntN_f (p := fun i => bef ln i s) (fun h9 => by have := bef_iff.mp h9; omega)).symm)) (by omega)
          · skip
            refine x_iload_n hC d_MessageCoderModel_rankOf_41 rfl rfl ?_
            refine x_iload_n hC d_MessageCoderModel_rankOf_42 rfl rfl ?_
            refine x_icmpN_ge hC d_MessageCoderModel_rankOf_43 (tgt := 50) (by decide) (by omega) (by omega) (fun c_43 => ?_) (fun c_43 => ?_)
            · skip
              refine x_iconst hC d_MessageCoderModel_rankOf_50 (v := nI 0) (by decide) ?_
              refine x_iadd hC d_MessageCoderModel_rankOf_51 (v := (nI (q1))) (x_addN (by omega)) ?_
              refine x_istore_n hC d_MessageCoderModel_rankOf_52 rfl (Nat.le_of_ble_eq_true rfl) (L1 := [some (.ref m), some (.int (nI (s))), some (.int (nI (q1))), some (.int (nI (k)))]) rfl ?_
              refine x_iinc hC d_MessageCoderModel_rankOf_53 rfl (v := (nI (k + 1))) (x_incN 1) (Nat.le_of_ble_eq_true rfl) (L1 := [some (.ref m), some (.int (nI (s))), some (.int (nI (q1))), some (.int (nI (k + 1)))]) rfl ?_
              refine x_goto hC d_MessageCoderModel_rankOf_56 (tgt := 4) (by decide) ?_
              exact ih_4  (k + 1) (q1) o0 h2 (by omega) (by first | (rw [kq]; exact (cntN_t (p := fun i => bef ln i s) (bef_iff.mpr (by omega))).symm) | (rw [kq]; exact (cntN_f (p := fun i => bef ln i s) (fun h9 => by have := bef_iff.mp h9; omega)).symm)) (by omega)
            · skip
              refine x_iconst hC d_MessageCoderModel_rankOf_46 (v := nI 1) (by decide) ?_
              refine x_goto hC d_MessageCoderModel_rankOf_47 (tgt := 51) (by decide) ?_
              refine x_iadd hC d_MessageCoderModel_rankOf_51 (v := (nI (q1 + 1))) (x_addN (by omega)) ?_
              refine x_istore_n hC d_MessageCoderModel_rankOf_52 rfl (Nat.le_of_ble_eq_true rfl) (L1 := [some (.ref m), some (.int (nI (s))), some (.int (nI (q1 + 1))), some (.int (nI (k)))]) rfl ?_
              refine x_iinc hC d_MessageCoderModel_rankOf_53 rfl (v := (nI (k + 1))) (x_incN 1) (Nat.le_of_ble_eq_true rfl) (L1 := [some (.ref m), some (.int (nI (s))), some (.int (nI (q1 + 1))), some (.int (nI (k + 1)))]) rfl ?_
              refine x_goto hC d_MessageCoderModel_rankOf_56 (tgt := 4) (by decide) ?_
              exact ih_4  (k + 1) (q1 + 1) o0 h2 (by omega) (by first | (rw [kq]; exact (cntN_t (p := fun i => bef ln i s) (bef_iff.mpr (by omega))).symm) | (rw [kq]; exact (cntN_f (p := fun i => bef ln i s) (fun h9 => by have := bef_iff.mp h9; omega)).symm)) (by omega)
  exact loop_4 (8 - 0 + 1)  (0) (0) o0 h2 (by omega) (rfl) (by omega)

theorem d_MessageCoderModel_symbolAtRank_0 : decode prog_14_method_12_code 0 = .ok (.iconst (-1), 1) := by decide +kernel
theorem d_MessageCoderModel_symbolAtRank_1 : decode prog_14_method_12_code 1 = .ok (.istore_n 2, 1) := by decide +kernel
theorem d_MessageCoderModel_symbolAtRank_2 : decode prog_14_method_12_code 2 = .ok (.iconst 0, 1) := by decide +kernel
theorem d_MessageCoderModel_symbolAtRank_3 : decode prog_14_method_12_code 3 = .ok (.istore_n 3, 1) := by decide +kernel
theorem d_MessageCoderModel_symbolAtRank_4 : decode prog_14_method_12_code 4 = .ok (.iload_n 3, 1) := by decide +kernel
theorem d_MessageCoderModel_symbolAtRank_5 : decode prog_14_method_12_code 5 = .ok (.bipush 8, 2) := by decide +kernel
theorem d_MessageCoderModel_symbolAtRank_7 : decode prog_14_method_12_code 7 = .ok (.if_icmp .ge 24, 3) := by decide +kernel
theorem d_MessageCoderModel_symbolAtRank_10 : decode prog_14_method_12_code 10 = .ok (.aload_n 0, 1) := by decide +kernel
theorem d_MessageCoderModel_symbolAtRank_11 : decode prog_14_method_12_code 11 = .ok (.iload_n 3, 1) := by decide +kernel
theorem d_MessageCoderModel_symbolAtRank_12 : decode prog_14_method_12_code 12 = .ok (.invokevirtual 68, 3) := by decide +kernel
theorem d_MessageCoderModel_symbolAtRank_15 : decode prog_14_method_12_code 15 = .ok (.iload_n 1, 1) := by decide +kernel
theorem d_MessageCoderModel_symbolAtRank_16 : decode prog_14_method_12_code 16 = .ok (.if_icmp .ne 7, 3) := by decide +kernel
theorem d_MessageCoderModel_symbolAtRank_19 : decode prog_14_method_12_code 19 = .ok (.iload_n 3, 1) := by decide +kernel
theorem d_MessageCoderModel_symbolAtRank_20 : decode prog_14_method_12_code 20 = .ok (.goto 4, 3) := by decide +kernel
theorem d_MessageCoderModel_symbolAtRank_23 : decode prog_14_method_12_code 23 = .ok (.iload_n 2, 1) := by decide +kernel
theorem d_MessageCoderModel_symbolAtRank_24 : decode prog_14_method_12_code 24 = .ok (.istore_n 2, 1) := by decide +kernel
theorem d_MessageCoderModel_symbolAtRank_25 : decode prog_14_method_12_code 25 = .ok (.iinc 3 1, 3) := by decide +kernel
theorem d_MessageCoderModel_symbolAtRank_28 : decode prog_14_method_12_code 28 = .ok (.goto (-24), 3) := by decide +kernel
theorem d_MessageCoderModel_symbolAtRank_31 : decode prog_14_method_12_code 31 = .ok (.iload_n 2, 1) := by decide +kernel
theorem d_MessageCoderModel_symbolAtRank_32 : decode prog_14_method_12_code 32 = .ok (.ireturn, 1) := by decide +kernel
set_option maxHeartbeats 4000000 in
set_option maxRecDepth 20000 in
theorem c_MessageCoderModel_symbolAtRank {P : xP} {F : xF} {z : Nat} {m : Nat} {th : Nat} {ch : Nat} {sv : Nat} {rs : Int32} {bm : Nat} {dm : Nat} {lz : Nat} {ty : Nat} {he : Nat} {er : Int32} {ea : Int32} {fa : Int32} {cn : Nat} {l1 : Nat → Nat} {ln : Nat → Nat} {r : Nat} (o0 : F (m) = some (.inl (10, [.int (nI (th)), .ref (m + 1), .int (nI (ch)), .int (nI (sv)), .int rs, .ref (m + 2), .ref (m + 3), .ref (m + 4), .ref (m + 5), .ref (m + 6), .int (nI (bm)), .ref (m + 7), .int (nI (dm)), .ref (m + 8), .ref (m + 9), .int (nI (lz)), .ref (m + 10), .int (nI (ty)), .int (nI (he)), .int er, .int ea, .int fa, .ref (m + 11), .int (nI (cn))]))) (h2 : F (m + 2) = some (.inr (0, 8, fun b9 => .int (nI (l1 b9))))) (hl : ∀ j, j < 8 → l1 j = ln j) (hl7 : ∀ j, j < 8 → ln j ≤ 7) (hr : r < 8) : xM P xy_MessageCoderModel_symbolAtRank [.ref m, .int (nI (r))] F (z) 0 0 (fun r9 F9 z9 => r9 = some (.int (nI (hOrd ln r))) ∧ F9 = F ∧ z9 = z) := by
  refine xM_i .int rfl (Nat.le_of_ble_eq_true rfl) (L0 := [some (.ref m), some (.int (nI (r))), none, none]) rfl rfl fun Θ hC hret => ?_
  have ho8 := hOrd_8 ln hr
  refine x_iconst hC d_MessageCoderModel_symbolAtRank_0 (v := -1) (by decide) ?_
  refine x_top (v := (xo 8)) xo_8.symm ?_
  refine x_istore_n hC d_MessageCoderModel_symbolAtRank_1 rfl (Nat.le_of_ble_eq_true rfl) (L1 := [some (.ref m), some (.int (nI (r))), some (.int (xo 8)), none]) rfl ?_
  refine x_iconst hC d_MessageCoderModel_symbolAtRank_2 (v := nI 0) (by decide) ?_
  refine x_istore_n hC d_MessageCoderModel_symbolAtRank_3 rfl (Nat.le_of_ble_eq_true rfl) (L1 := [some (.ref m), some (.int (nI (r))), some (.int (xo 8)), some (.int (nI 0))]) rfl ?_
  have loop_4 : ∀ (m9 : Nat) (k : Nat) (f : Nat), (F (m) = some (.inl (10, [.int (nI (th)), .ref (m + 1), .int (nI (ch)), .int (nI (sv)), .int rs, .ref (m + 2), .ref (m + 3), .ref (m + 4), .ref (m + 5), .ref (m + 6), .int (nI (bm)), .ref (m + 7), .int (nI (dm)), .ref (m + 8), .ref (m + 9), .int (nI (lz)), .ref (m + 10), .int (nI (ty)), .int (nI (he)), .int er, .int ea, .int fa, .ref (m + 11), .int (nI (cn))]))) → (F (m + 2) = some (.inr (0, 8, fun b9 => .int (nI (l1 b9))))) → (k ≤ 8) → (f = (if hOrd ln r < k then hOrd ln r else 8)) → (8 - k < m9) → xX P Θ 4 [some (.ref m), some (.int (nI (r))), some (.int (xo (f))), some (.int (nI (k)))] [] F (z) 0 0 := by
    intro m9
    induction m9 with
    | zero => intros; omega
    | succ m9 ih_4 =>
      intro  k f o0 h2 hk kf hm_4
      refine x_iload_n hC d_MessageCoderModel_symbolAtRank_4 rfl rfl ?_
      refine x_bipush hC d_MessageCoderModel_symbolAtRank_5 (v := nI 8) (by decide) ?_
      refine x_icmpN_ge hC d_MessageCoderModel_symbolAtRank_7 (tgt := 31) (by decide) (by omega) (by omega) (fun c_7 => ?_) (fun c_7 => ?_)
      · skip
        refine x_iload_n hC d_MessageCoderModel_symbolAtRank_31 rfl rfl ?_
        exact hret _ _ _ _ _ _ _ d_MessageCoderModel_symbolAtRank_32 (by decide) (by decide) rfl (⟨by rw [kf, if_pos (by omega)]; exact congrArg (fun q => some (Value.int q)) (xo_of ho8.1), rfl, rfl⟩)
      · skip
        refine x_aload_n hC d_MessageCoderModel_symbolAtRank_10 rfl rfl ?_
        refine x_iload_n hC d_MessageCoderModel_symbolAtRank_11 rfl rfl ?_
        refine x_callV hC kv_MessageCoderModel_68 (c_MessageCoderModel_rankOf (o0 := o0) (h2 := h2) (hl := hl) (hl7 := hl7) (hs := by omega)) o0 rfl rfl (by decide) rfl rfl rfl (Nat.le_of_ble_eq_true rfl) (by decide) d_MessageCoderModel_symbolAtRank_12 (fun r9 F9 z9 hp9 => ?_)
        obtain ⟨rfl, h9b, h9c⟩ := hp9
        rw [h9b, h9c]
        clear h9b h9c F9 z9
        have hrk := rk_8 (ln := ln) (show k < 8 by omega)
        refine x_iload_n hC d_MessageCoderModel_symbolAtRank_15 rfl rfl ?_
        refine x_icmpN_ne hC d_MessageCoderModel_symbolAtRank_16 (tgt := 23) (by decide) (by omega) (by omega) (fun c_16 => ?_) (fun c_16 => ?_)
        · skip
          refine x_iload_n hC d_MessageCoderModel_symbolAtRank_23 rfl rfl ?_
          refine x_istore_n hC d_MessageCoderModel_symbolAtRank_24 rfl (Nat.le_of_ble_eq_true rfl) (L1 := [some (.ref m), some (.int (nI (r))), some (.int (xo (f))), some (.int (nI (k)))]) rfl ?_
          refine x_iinc hC d_MessageCoderModel_symbolAtRank_25 rfl (v := (nI (k + 1))) (x_incN 1) (Nat.le_of_ble_eq_true rfl) (L1 := [some (.ref m), some (.int (nI (r))), some (.int (xo (f))), some (.int (nI (k + 1)))]) rfl ?_
          refine x_goto hC d_MessageCoderModel_symbolAtRank_28 (tgt := 4) (by decide) ?_
          exact ih_4  (k + 1) (f) o0 h2 (by omega) (by first | (have h9 := hOrd_rk (ln := ln) (show k < 8 by omega); rw [c_16] at h9; rw [if_pos (by omega), h9]; done) | (have h9 : hOrd ln r ≠ k := fun e => c_16 (by rw [← e]; exact ho8.2); rw [kf]; by_cases h8 : hOrd ln r < k; (rw [if_pos h8, if_pos (by omega)]); (rw [if_neg h8, if_neg (by omega)]))) (by omega)
        · skip
          refine x_iload_n hC d_MessageCoderModel_symbolAtRank_19 rfl rfl ?_
          refine x_goto hC d_MessageCoderModel_symbolAtRank_20 (tgt := 24) (by decide) ?_
          refine x_top (v := (xo (k))) (xo_of (by omega)).symm ?_
          refine x_istore_n hC d_MessageCoderModel_symbolAtRank_24 rfl (Nat.le_of_ble_eq_true rfl) (L1 := [some (.ref m), some (.int (nI (r))), some (.int (xo (k))), some (.int (nI (k)))]) rfl ?_
          refine x_iinc hC d_MessageCoderModel_symbolAtRank_25 rfl (v := (nI (k + 1))) (x_incN 1) (Nat.le_of_ble_eq_true rfl) (L1 := [some (.ref m), some (.int (nI (r))), some (.int (xo (k))), some (.int (nI (k + 1)))]) rfl ?_
          refine x_goto hC d_MessageCoderModel_symbolAtRank_28 (tgt := 4) (by decide) ?_
          exact ih_4  (k + 1) (k) o0 h2 (by omega) (by first | (have h9 := hOrd_rk (ln := ln) (show k < 8 by omega); rw [c_16] at h9; rw [if_pos (by omega), h9]; done) | (have h9 : hOrd ln r ≠ k := fun e => c_16 (by rw [← e]; exact ho8.2); rw [kf]; by_cases h8 : hOrd ln r < k; (rw [if_pos h8, if_pos (by omega)]); (rw [if_neg h8, if_neg (by omega)]))) (by omega)
  exact loop_4 (8 - 0 + 1)  (0) (8) o0 h2 (by omega) (rfl) (by omega)

theorem d_MessageCoderModel_codes_0 : decode prog_14_method_13_code 0 = .ok (.iconst 0, 1) := by decide +kernel
theorem d_MessageCoderModel_codes_1 : decode prog_14_method_13_code 1 = .ok (.istore_n 1, 1) := by decide +kernel
theorem d_MessageCoderModel_codes_2 : decode prog_14_method_13_code 2 = .ok (.iload_n 1, 1) := by decide +kernel
theorem d_MessageCoderModel_codes_3 : decode prog_14_method_13_code 3 = .ok (.bipush 8, 2) := by decide +kernel
theorem d_MessageCoderModel_codes_5 : decode prog_14_method_13_code 5 = .ok (.if_icmp .ge 38, 3) := by decide +kernel
theorem d_MessageCoderModel_codes_8 : decode prog_14_method_13_code 8 = .ok (.aload_n 0, 1) := by decide +kernel
theorem d_MessageCoderModel_codes_9 : decode prog_14_method_13_code 9 = .ok (.getfield 19, 3) := by decide +kernel
theorem d_MessageCoderModel_codes_12 : decode prog_14_method_13_code 12 = .ok (.iload_n 1, 1) := by decide +kernel
theorem d_MessageCoderModel_codes_13 : decode prog_14_method_13_code 13 = .ok (.iload_n 1, 1) := by decide +kernel
theorem d_MessageCoderModel_codes_14 : decode prog_14_method_13_code 14 = .ok (.iastore, 1) := by decide +kernel
theorem d_MessageCoderModel_codes_15 : decode prog_14_method_13_code 15 = .ok (.aload_n 0, 1) := by decide +kernel
theorem d_MessageCoderModel_codes_16 : decode prog_14_method_13_code 16 = .ok (.getfield 22, 3) := by decide +kernel
theorem d_MessageCoderModel_codes_19 : decode prog_14_method_13_code 19 = .ok (.iload_n 1, 1) := by decide +kernel
theorem d_MessageCoderModel_codes_20 : decode prog_14_method_13_code 20 = .ok (.aload_n 0, 1) := by decide +kernel
theorem d_MessageCoderModel_codes_21 : decode prog_14_method_13_code 21 = .ok (.getfield 9, 3) := by decide +kernel
theorem d_MessageCoderModel_codes_24 : decode prog_14_method_13_code 24 = .ok (.bipush 10, 2) := by decide +kernel
theorem d_MessageCoderModel_codes_26 : decode prog_14_method_13_code 26 = .ok (.iload_n 1, 1) := by decide +kernel
theorem d_MessageCoderModel_codes_27 : decode prog_14_method_13_code 27 = .ok (.iadd, 1) := by decide +kernel
theorem d_MessageCoderModel_codes_28 : decode prog_14_method_13_code 28 = .ok (.iaload, 1) := by decide +kernel
theorem d_MessageCoderModel_codes_29 : decode prog_14_method_13_code 29 = .ok (.iastore, 1) := by decide +kernel
theorem d_MessageCoderModel_codes_30 : decode prog_14_method_13_code 30 = .ok (.aload_n 0, 1) := by decide +kernel
theorem d_MessageCoderModel_codes_31 : decode prog_14_method_13_code 31 = .ok (.getfield 13, 3) := by decide +kernel
theorem d_MessageCoderModel_codes_34 : decode prog_14_method_13_code 34 = .ok (.iload_n 1, 1) := by decide +kernel
theorem d_MessageCoderModel_codes_35 : decode prog_14_method_13_code 35 = .ok (.iconst 0, 1) := by decide +kernel
theorem d_MessageCoderModel_codes_36 : decode prog_14_method_13_code 36 = .ok (.iastore, 1) := by decide +kernel
theorem d_MessageCoderModel_codes_37 : decode prog_14_method_13_code 37 = .ok (.iinc 1 1, 3) := by decide +kernel
theorem d_MessageCoderModel_codes_40 : decode prog_14_method_13_code 40 = .ok (.goto (-38), 3) := by decide +kernel
theorem d_MessageCoderModel_codes_43 : decode prog_14_method_13_code 43 = .ok (.iconst 1, 1) := by decide +kernel
theorem d_MessageCoderModel_codes_44 : decode prog_14_method_13_code 44 = .ok (.istore_n 1, 1) := by decide +kernel
theorem d_MessageCoderModel_codes_45 : decode prog_14_method_13_code 45 = .ok (.iload_n 1, 1) := by decide +kernel
theorem d_MessageCoderModel_codes_46 : decode prog_14_method_13_code 46 = .ok (.bipush 8, 2) := by decide +kernel
theorem d_MessageCoderModel_codes_48 : decode prog_14_method_13_code 48 = .ok (.if_icmp .ge 25, 3) := by decide +kernel
theorem d_MessageCoderModel_codes_51 : decode prog_14_method_13_code 51 = .ok (.aload_n 0, 1) := by decide +kernel
theorem d_MessageCoderModel_codes_52 : decode prog_14_method_13_code 52 = .ok (.iconst (-1), 1) := by decide +kernel
theorem d_MessageCoderModel_codes_53 : decode prog_14_method_13_code 53 = .ok (.invokevirtual 72, 3) := by decide +kernel
theorem d_MessageCoderModel_codes_56 : decode prog_14_method_13_code 56 = .ok (.istore_n 2, 1) := by decide +kernel
theorem d_MessageCoderModel_codes_57 : decode prog_14_method_13_code 57 = .ok (.aload_n 0, 1) := by decide +kernel
theorem d_MessageCoderModel_codes_58 : decode prog_14_method_13_code 58 = .ok (.iload_n 2, 1) := by decide +kernel
theorem d_MessageCoderModel_codes_59 : decode prog_14_method_13_code 59 = .ok (.aload_n 0, 1) := by decide +kernel
theorem d_MessageCoderModel_codes_60 : decode prog_14_method_13_code 60 = .ok (.iload_n 2, 1) := by decide +kernel
theorem d_MessageCoderModel_codes_61 : decode prog_14_method_13_code 61 = .ok (.invokevirtual 72, 3) := by decide +kernel
theorem d_MessageCoderModel_codes_64 : decode prog_14_method_13_code 64 = .ok (.invokevirtual 75, 3) := by decide +kernel
theorem d_MessageCoderModel_codes_67 : decode prog_14_method_13_code 67 = .ok (.iinc 1 1, 3) := by decide +kernel
theorem d_MessageCoderModel_codes_70 : decode prog_14_method_13_code 70 = .ok (.goto (-25), 3) := by decide +kernel
theorem d_MessageCoderModel_codes_73 : decode prog_14_method_13_code 73 = .ok (.iconst 0, 1) := by decide +kernel
theorem d_MessageCoderModel_codes_74 : decode prog_14_method_13_code 74 = .ok (.istore_n 1, 1) := by decide +kernel
theorem d_MessageCoderModel_codes_75 : decode prog_14_method_13_code 75 = .ok (.aload_n 0, 1) := by decide +kernel
theorem d_MessageCoderModel_codes_76 : decode prog_14_method_13_code 76 = .ok (.iconst 0, 1) := by decide +kernel
theorem d_MessageCoderModel_codes_77 : decode prog_14_method_13_code 77 = .ok (.invokevirtual 78, 3) := by decide +kernel
theorem d_MessageCoderModel_codes_80 : decode prog_14_method_13_code 80 = .ok (.istore_n 2, 1) := by decide +kernel
theorem d_MessageCoderModel_codes_81 : decode prog_14_method_13_code 81 = .ok (.aload_n 0, 1) := by decide +kernel
theorem d_MessageCoderModel_codes_82 : decode prog_14_method_13_code 82 = .ok (.getfield 16, 3) := by decide +kernel
theorem d_MessageCoderModel_codes_85 : decode prog_14_method_13_code 85 = .ok (.iload_n 2, 1) := by decide +kernel
theorem d_MessageCoderModel_codes_86 : decode prog_14_method_13_code 86 = .ok (.iconst 0, 1) := by decide +kernel
theorem d_MessageCoderModel_codes_87 : decode prog_14_method_13_code 87 = .ok (.iastore, 1) := by decide +kernel
theorem d_MessageCoderModel_codes_88 : decode prog_14_method_13_code 88 = .ok (.iconst 1, 1) := by decide +kernel
theorem d_MessageCoderModel_codes_89 : decode prog_14_method_13_code 89 = .ok (.istore_n 3, 1) := by decide +kernel
theorem d_MessageCoderModel_codes_90 : decode prog_14_method_13_code 90 = .ok (.iload_n 3, 1) := by decide +kernel
theorem d_MessageCoderModel_codes_91 : decode prog_14_method_13_code 91 = .ok (.bipush 8, 2) := by decide +kernel
theorem d_MessageCoderModel_codes_93 : decode prog_14_method_13_code 93 = .ok (.if_icmp .ge 46, 3) := by decide +kernel
theorem d_MessageCoderModel_codes_96 : decode prog_14_method_13_code 96 = .ok (.aload_n 0, 1) := by decide +kernel
theorem d_MessageCoderModel_codes_97 : decode prog_14_method_13_code 97 = .ok (.iload_n 3, 1) := by decide +kernel
theorem d_MessageCoderModel_codes_98 : decode prog_14_method_13_code 98 = .ok (.invokevirtual 78, 3) := by decide +kernel
theorem d_MessageCoderModel_codes_101 : decode prog_14_method_13_code 101 = .ok (.istore 4, 2) := by decide +kernel
theorem d_MessageCoderModel_codes_103 : decode prog_14_method_13_code 103 = .ok (.iload_n 1, 1) := by decide +kernel
theorem d_MessageCoderModel_codes_104 : decode prog_14_method_13_code 104 = .ok (.iconst 1, 1) := by decide +kernel
theorem d_MessageCoderModel_codes_105 : decode prog_14_method_13_code 105 = .ok (.iadd, 1) := by decide +kernel
theorem d_MessageCoderModel_codes_106 : decode prog_14_method_13_code 106 = .ok (.aload_n 0, 1) := by decide +kernel
theorem d_MessageCoderModel_codes_107 : decode prog_14_method_13_code 107 = .ok (.getfield 13, 3) := by decide +kernel
theorem d_MessageCoderModel_codes_110 : decode prog_14_method_13_code 110 = .ok (.iload 4, 2) := by decide +kernel
theorem d_MessageCoderModel_codes_112 : decode prog_14_method_13_code 112 = .ok (.iaload, 1) := by decide +kernel
theorem d_MessageCoderModel_codes_113 : decode prog_14_method_13_code 113 = .ok (.aload_n 0, 1) := by decide +kernel
theorem d_MessageCoderModel_codes_114 : decode prog_14_method_13_code 114 = .ok (.getfield 13, 3) := by decide +kernel
theorem d_MessageCoderModel_codes_117 : decode prog_14_method_13_code 117 = .ok (.iload_n 2, 1) := by decide +kernel
theorem d_MessageCoderModel_codes_118 : decode prog_14_method_13_code 118 = .ok (.iaload, 1) := by decide +kernel
theorem d_MessageCoderModel_codes_119 : decode prog_14_method_13_code 119 = .ok (.isub, 1) := by decide +kernel
theorem d_MessageCoderModel_codes_120 : decode prog_14_method_13_code 120 = .ok (.ishl, 1) := by decide +kernel
theorem d_MessageCoderModel_codes_121 : decode prog_14_method_13_code 121 = .ok (.istore_n 1, 1) := by decide +kernel
theorem d_MessageCoderModel_codes_122 : decode prog_14_method_13_code 122 = .ok (.aload_n 0, 1) := by decide +kernel
theorem d_MessageCoderModel_codes_123 : decode prog_14_method_13_code 123 = .ok (.getfield 16, 3) := by decide +kernel
theorem d_MessageCoderModel_codes_126 : decode prog_14_method_13_code 126 = .ok (.iload 4, 2) := by decide +kernel
theorem d_MessageCoderModel_codes_128 : decode prog_14_method_13_code 128 = .ok (.iload_n 1, 1) := by decide +kernel
theorem d_MessageCoderModel_codes_129 : decode prog_14_method_13_code 129 = .ok (.iastore, 1) := by decide +kernel
theorem d_MessageCoderModel_codes_130 : decode prog_14_method_13_code 130 = .ok (.iload 4, 2) := by decide +kernel
theorem d_MessageCoderModel_codes_132 : decode prog_14_method_13_code 132 = .ok (.istore_n 2, 1) := by decide +kernel
theorem d_MessageCoderModel_codes_133 : decode prog_14_method_13_code 133 = .ok (.iinc 3 1, 3) := by decide +kernel
theorem d_MessageCoderModel_codes_136 : decode prog_14_method_13_code 136 = .ok (.goto (-46), 3) := by decide +kernel
theorem d_MessageCoderModel_codes_139 : decode prog_14_method_13_code 139 = .ok (.return_, 1) := by decide +kernel
set_option maxHeartbeats 4000000 in
set_option maxRecDepth 20000 in
theorem c_MessageCoderModel_codes {P : xP} {F : xF} {z : Nat} {m : Nat} {th : Nat} {ch : Nat} {sv : Nat} {rs : Int32} {bm : Nat} {dm : Nat} {lz : Nat} {ty : Nat} {he : Nat} {er : Int32} {ea : Int32} {fa : Int32} {cn : Nat} {g : Nat → Nat} {w : Nat → Nat} {l0 : Nat → Nat} {v0 : Nat → Nat} {r0 : Nat → Nat} {w0 : Nat → Nat} (o0 : F (m) = some (.inl (10, [.int (nI (th)), .ref (m + 1), .int (nI (ch)), .int (nI (sv)), .int rs, .ref (m + 2), .ref (m + 3), .ref (m + 4), .ref (m + 5), .ref (m + 6), .int (nI (bm)), .ref (m + 7), .int (nI (dm)), .ref (m + 8), .ref (m + 9), .int (nI (lz)), .ref (m + 10), .int (nI (ty)), .int (nI (he)), .int er, .int ea, .int fa, .ref (m + 11), .int (nI (cn))]))) (ga : F (m + 1) = some (.inr (0, 4730, fun b9 => .int (nI (g b9))))) (h2 : F (m + 2) = some (.inr (0, 8, fun b9 => .int (nI (l0 b9))))) (h3 : F (m + 3) = some (.inr (0, 8, fun b9 => .int (nI (v0 b9))))) (h4 : F (m + 4) = some (.inr (0, 8, fun b9 => .int (nI (r0 b9))))) (h5 : F (m + 5) = some (.inr (0, 8, fun b9 => .int (nI (w0 b9))))) (hw : ∀ j, j < 8 → g (10 + j) = w j) (hw9 : ∀ j, j < 8 → w j ≤ 99) : xM P xy_MessageCoderModel_codes [.ref m] F (z) 0 0 (fun r9 F9 z9 => ∃ ln1 : Nat → Nat, ∃ vl1 : Nat → Nat, ∃ gr1 : Nat → Nat, ∃ gw1 : Nat → Nat, r9 = none ∧ z9 = z ∧ F9 (m) = some (.inl (10, [.int (nI (th)), .ref (m + 1), .int (nI (ch)), .int (nI (sv)), .int rs, .ref (m + 2), .ref (m + 3), .ref (m + 4), .ref (m + 5), .ref (m + 6), .int (nI (bm)), .ref (m + 7), .int (nI (dm)), .ref (m + 8), .ref (m + 9), .int (nI (lz)), .ref (m + 10), .int (nI (ty)), .int (nI (he)), .int er, .int ea, .int fa, .ref (m + 11), .int (nI (cn))])) ∧ F9 (m + 1) = some (.inr (0, 4730, fun b9 => .int (nI (g b9)))) ∧ F9 (m + 2) = some (.inr (0, 8, fun b9 => .int (nI (ln1 b9)))) ∧ F9 (m + 3) = some (.inr (0, 8, fun b9 => .int (nI (vl1 b9)))) ∧ F9 (m + 4) = some (.inr (0, 8, fun b9 => .int (nI (gr1 b9)))) ∧ F9 (m + 5) = some (.inr (0, 8, fun b9 => .int (nI (gw1 b9)))) ∧ (∀ j, j < 8 → ln1 j = hLen w j ∧ vl1 j = hVal (hLen w) j) ∧ (∀ a9 : Nat, (a9 < m + 2 ∨ m + 2 + 4 ≤ a9) → F9 a9 = F a9)) := by
  refine xM_v rfl (Nat.le_of_ble_eq_true rfl) (L0 := [some (.ref m), none, none, none, none]) rfl rfl fun Θ hC hin hret => ?_
  have hag : ∀ a9 : Nat, (a9 < m + 2 ∨ m + 2 + 4 ≤ a9) → F a9 = F a9 := fun a9 _ => rfl
  refine x_iconst hC d_MessageCoderModel_codes_0 (v := nI 0) (by decide) ?_
  refine x_istore_n hC d_MessageCoderModel_codes_1 rfl (Nat.le_of_ble_eq_true rfl) (L1 := [some (.ref m), some (.int (nI 0)), none, none, none]) rfl ?_
  have loop_2 : ∀ (m9 : Nat) (Fh2 : xF) (i : Nat) (p4 : Nat → Nat) (p5 : Nat → Nat) (p2 : Nat → Nat), (Fh2 (m) = some (.inl (10, [.int (nI (th)), .ref (m + 1), .int (nI (ch)), .int (nI (sv)), .int rs, .ref (m + 2), .ref (m + 3), .ref (m + 4), .ref (m + 5), .ref (m + 6), .int (nI (bm)), .ref (m + 7), .int (nI (dm)), .ref (m + 8), .ref (m + 9), .int (nI (lz)), .ref (m + 10), .int (nI (ty)), .int (nI (he)), .int er, .int ea, .int fa, .ref (m + 11), .int (nI (cn))]))) → (Fh2 (m + 1) = some (.inr (0, 4730, fun b9 => .int (nI (g b9))))) → (Fh2 (m + 2) = some (.inr (0, 8, fun b9 => .int (nI (p2 b9))))) → (Fh2 (m + 3) = some (.inr (0, 8, fun b9 => .int (nI (v0 b9))))) → (Fh2 (m + 4) = some (.inr (0, 8, fun b9 => .int (nI (p4 b9))))) → (Fh2 (m + 5) = some (.inr (0, 8, fun b9 => .int (nI (p5 b9))))) → (∀ a9 : Nat, (a9 < m + 2 ∨ m + 2 + 4 ≤ a9) → Fh2 a9 = F a9) → (i ≤ 8) → (∀ q, q < i → p4 q = q ∧ p5 q = w q ∧ p2 q = 0) → (8 - i < m9) → xX P Θ 2 [some (.ref m), some (.int (nI (i))), none, none, none] [] Fh2 (z) 0 0 := by
    intro m9
    induction m9 with
    | zero => intros; omega
    | succ m9 ih_2 =>
      intro Fh2 i p4 p5 p2 o0 ga h2 h3 h4 h5 hag hi kz hm_2
      refine x_iload_n hC d_MessageCoderModel_codes_2 rfl rfl ?_
      refine x_bipush hC d_MessageCoderModel_codes_3 (v := nI 8) (by decide) ?_
      refine x_icmpN_ge hC d_MessageCoderModel_codes_5 (tgt := 43) (by decide) (by omega) (by omega) (fun c_5 => ?_) (fun c_5 => ?_)
      · skip
        refine x_iconst hC d_MessageCoderModel_codes_43 (v := nI 1) (by decide) ?_
        refine x_istore_n hC d_MessageCoderModel_codes_44 rfl (Nat.le_of_ble_eq_true rfl) (L1 := [some (.ref m), some (.int (nI 1)), none, none, none]) rfl ?_
        have loop_45 : ∀ (m9 : Nat) (Fh45 : xF) (i : Nat) (a4 : Nat → Nat) (a5 : Nat → Nat) (a2 : Nat → Nat), (Fh45 (m) = some (.inl (10, [.int (nI (th)), .ref (m + 1), .int (nI (ch)), .int (nI (sv)), .int rs, .ref (m + 2), .ref (m + 3), .ref (m + 4), .ref (m + 5), .ref (m + 6), .int (nI (bm)), .ref (m + 7), .int (nI (dm)), .ref (m + 8), .ref (m + 9), .int (nI (lz)), .ref (m + 10), .int (nI (ty)), .int (nI (he)), .int er, .int ea, .int fa, .ref (m + 11), .int (nI (cn))]))) → (Fh45 (m + 1) = some (.inr (0, 4730, fun b9 => .int (nI (g b9))))) → (Fh45 (m + 2) = some (.inr (0, 8, fun b9 => .int (nI (a2 b9))))) → (Fh45 (m + 3) = some (.inr (0, 8, fun b9 => .int (nI (v0 b9))))) → (Fh45 (m + 4) = some (.inr (0, 8, fun b9 => .int (nI (a4 b9))))) → (Fh45 (m + 5) = some (.inr (0, 8, fun b9 => .int (nI (a5 b9))))) → (∀ a9 : Nat, (a9 < m + 2 ∨ m + 2 + 4 ≤ a9) → Fh45 a9 = F a9) → (1 ≤ i ∧ i ≤ 8) → (∀ j, j < 8 → a4 j = (hJ w (i - 1)).1 j ∧ a5 j = (hJ w (i - 1)).2.1 j ∧ a2 j = (hJ w (i - 1)).2.2.1 j) → (8 - i < m9) → xX P Θ 45 [some (.ref m), some (.int (nI (i))), none, none, none] [] Fh45 (z) 0 0 := by
          intro m9
          induction m9 with
          | zero => intros; omega
          | succ m9 ih_45 =>
            intro Fh45 i a4 a5 a2 o0 ga h2 h3 h4 h5 hag hi ka hm_45
            refine x_iload_n hC d_MessageCoderModel_codes_45 rfl rfl ?_
            refine x_bipush hC d_MessageCoderModel_codes_46 (v := nI 8) (by decide) ?_
            refine x_icmpN_ge hC d_MessageCoderModel_codes_48 (tgt := 73) (by decide) (by omega) (by omega) (fun c_48 => ?_) (fun c_48 => ?_)
            · skip
              have e8 : i = 8 := by omega
              subst e8
              have hl2 : ∀ j, j < 8 → a2 j = hLen w j := fun j hj => (ka j hj).2.2
              have hl7 : ∀ j, j < 8 → hLen w j ≤ 7 := fun j hj => hLen_7 w hj
              have hv0 := hVal_0 (hLen w)
              refine x_iconst hC d_MessageCoderModel_codes_73 (v := nI 0) (by decide) ?_
              refine x_istore_n hC d_MessageCoderModel_codes_74 rfl (Nat.le_of_ble_eq_true rfl) (L1 := [some (.ref m), some (.int (nI 0)), none, none, none]) rfl ?_
              refine x_aload_n hC d_MessageCoderModel_codes_75 rfl rfl ?_
              refine x_iconst hC d_MessageCoderModel_codes_76 (v := nI 0) (by decide) ?_
              refine x_callV hC kv_MessageCoderModel_78 (c_MessageCoderModel_symbolAtRank (o0 := o0) (h2 := h2) (hl := hl2) (hl7 := hl7) (hr := by omega) (ln := hLen w)) o0 rfl rfl (by decide) rfl rfl rfl (Nat.le_of_ble_eq_true rfl) (by decide) d_MessageCoderModel_codes_77 (fun r9 F9 z9 hp9 => ?_)
              obtain ⟨rfl, h9b, h9c⟩ := hp9
              rw [h9b, h9c]
              clear h9b h9c F9 z9
              have ho0 := (hOrd_8 (hLen w) (r := 0) (by omega)).1
              refine x_istore_n hC d_MessageCoderModel_codes_80 rfl (Nat.le_of_ble_eq_true rfl) (L1 := [some (.ref m), some (.int (nI 0)), some (.int (nI (hOrd (hLen w) 0))), none, none]) rfl ?_
              refine x_aload_n hC d_MessageCoderModel_codes_81 rfl rfl ?_
              refine x_getf hC kf_MessageCoderModel_16 o0 rfl d_MessageCoderModel_codes_82 ?_
              refine x_iload_n hC d_MessageCoderModel_codes_85 rfl rfl ?_
              refine x_iconst hC d_MessageCoderModel_codes_86 (v := nI 0) (by decide) ?_
              refine x_iast hC h3 (j := hOrd (hLen w) 0) ⟨rfl, by omega, by omega⟩ d_MessageCoderModel_codes_87 (g1 := fun b9 => nI (updN v0 (hOrd (hLen w) 0) (0) b9)) (x_updN _ _ _) ?_
              generalize eq3 : updN v0 (hOrd (hLen w) 0) (0) = q3
              generalize e2 : xup Fh45 (m + 3) (.inr (0, 8, fun b9 => .int (nI (q3 b9)))) = F2
              have o0 : F2 (m) = some (.inl (10, [.int (nI (th)), .ref (m + 1), .int (nI (ch)), .int (nI (sv)), .int rs, .ref (m + 2), .ref (m + 3), .ref (m + 4), .ref (m + 5), .ref (m + 6), .int (nI (bm)), .ref (m + 7), .int (nI (dm)), .ref (m + 8), .ref (m + 9), .int (nI (lz)), .ref (m + 10), .int (nI (ty)), .int (nI (he)), .int er, .int ea, .int fa, .ref (m + 11), .int (nI (cn))])) := by rw [← e2]; exact (xup_ne (by omega)).trans o0
              have ga : F2 (m + 1) = some (.inr (0, 4730, fun b9 => .int (nI (g b9)))) := by rw [← e2]; exact (xup_ne (by omega)).trans ga
              have h2 : F2 (m + 2) = some (.inr (0, 8, fun b9 => .int (nI (a2 b9)))) := by rw [← e2]; exact (xup_ne (by omega)).trans h2
              have h3 : F2 (m + 3) = some (.inr (0, 8, fun b9 => .int (nI (q3 b9)))) := by rw [← e2]; exact xup_eq
              have h4 : F2 (m + 4) = some (.inr (0, 8, fun b9 => .int (nI (a4 b9)))) := by rw [← e2]; exact (xup_ne (by omega)).trans h4
              have h5 : F2 (m + 5) = some (.inr (0, 8, fun b9 => .int (nI (a5 b9)))) := by rw [← e2]; exact (xup_ne (by omega)).trans h5
              have hag : ∀ a9 : Nat, (a9 < m + 2 ∨ m + 2 + 4 ≤ a9) → F2 a9 = F a9 := fun a9 q0 => by rw [← e2]; exact (xup_ne (by omega)).trans (hag a9 q0)
              refine x_iconst hC d_MessageCoderModel_codes_88 (v := nI 1) (by decide) ?_
              refine x_istore_n hC d_MessageCoderModel_codes_89 rfl (Nat.le_of_ble_eq_true rfl) (L1 := [some (.ref m), some (.int (nI 0)), some (.int (nI (hOrd (hLen w) 0))), some (.int (nI 1)), none]) rfl ?_
              have loop_90 : ∀ (m9 : Nat) (Fh90 : xF) (r : Nat) (v1 : Nat → Nat) (cd : Nat) (bf : Nat), (Fh90 (m) = some (.inl (10, [.int (nI (th)), .ref (m + 1), .int (nI (ch)), .int (nI (sv)), .int rs, .ref (m + 2), .ref (m + 3), .ref (m + 4), .ref (m + 5), .ref (m + 6), .int (nI (bm)), .ref (m + 7), .int (nI (dm)), .ref (m + 8), .ref (m + 9), .int (nI (lz)), .ref (m + 10), .int (nI (ty)), .int (nI (he)), .int er, .int ea, .int fa, .ref (m + 11), .int (nI (cn))]))) → (Fh90 (m + 1) = some (.inr (0, 4730, fun b9 => .int (nI (g b9))))) → (Fh90 (m + 2) = some (.inr (0, 8, fun b9 => .int (nI (a2 b9))))) → (Fh90 (m + 3) = some (.inr (0, 8, fun b9 => .int (nI (v1 b9))))) → (Fh90 (m + 4) = some (.inr (0, 8, fun b9 => .int (nI (a4 b9))))) → (Fh90 (m + 5) = some (.inr (0, 8, fun b9 => .int (nI (a5 b9))))) → (∀ a9 : Nat, (a9 < m + 2 ∨ m + 2 + 4 ≤ a9) → Fh90 a9 = F a9) → (1 ≤ r ∧ r ≤ 8) → (cd = hVal (hLen w) (hOrd (hLen w) (r - 1))) → (bf = hOrd (hLen w) (r - 1)) → (∀ q, q < r → v1 (hOrd (hLen w) q) = hVal (hLen w) (hOrd (hLen w) q)) → (8 - r < m9) → xX P Θ 90 [some (.ref m), some (.int (nI (cd))), some (.int (nI (bf))), some (.int (nI (r))), none] [] Fh90 (z) 0 0 := by
                intro m9
                induction m9 with
                | zero => intros; omega
                | succ m9 ih_90 =>
                  intro Fh90 r v1 cd bf o0 ga h2 h3 h4 h5 hag hr kc kb kv hm_90
                  refine x_iload_n hC d_MessageCoderModel_codes_90 rfl rfl ?_
                  refine x_bipush hC d_MessageCoderModel_codes_91 (v := nI 8) (by decide) ?_
                  refine x_icmpN_ge hC d_MessageCoderModel_codes_93 (tgt := 139) (by decide) (by omega) (by omega) (fun c_93 => ?_) (fun c_93 => ?_)
                  · skip
                    refine hret _ _ _ _ _ _ d_MessageCoderModel_codes_139 (by decide) (by decide) ?_
                    have e8 : r = 8 := by omega
                    subst e8
                    exact ⟨a2, v1, a4, a5, rfl, rfl, o0, ga, h2, h3, h4, h5, fun j hj => ⟨hl2 j hj, by have h9 := kv (rkN (hLen w) j) (rk_8 hj); rw [hOrd_rk hj] at h9; exact h9⟩, hag⟩
                  · skip
                    refine x_aload_n hC d_MessageCoderModel_codes_96 rfl rfl ?_
                    refine x_iload_n hC d_MessageCoderModel_codes_97 rfl rfl ?_
                    refine x_callV hC kv_MessageCoderModel_78 (c_MessageCoderModel_symbolAtRank (o0 := o0) (h2 := h2) (hl := hl2) (hl7 := hl7) (hr := by omega) (ln := hLen w)) o0 rfl rfl (by decide) rfl rfl rfl (Nat.le_of_ble_eq_true rfl) (by decide) d_MessageCoderModel_codes_98 (fun r9 F9 z9 hp9 => ?_)
                    obtain ⟨rfl, h9b, h9c⟩ := hp9
                    rw [h9b, h9c]
                    clear h9b h9c F9 z9
                    have hnx := hVal_next (hLen w) hr.1 (show r < 8 by omega)
                    rw [← kc, ← kb] at hnx
                    have hbf8 : bf < 8 := by rw [kb]; exact (hOrd_8 (hLen w) (r := r - 1) (by omega)).1
                    have ho9 := (hOrd_8 (hLen w) (r := r) (by omega)).1
                    have hb9 := hVal_bd (ln := hLen w) (hl7 _ ho9)
                    have hb7 : cd ≤ 1024 := by rw [kc]; exact hVal_bd (ln := hLen w) (hl7 _ (by rw [← kb]; exact hbf8))
                    have hb6 := hl7 _ ho9
                    refine x_istore hC d_MessageCoderModel_codes_101 (Nat.le_of_ble_eq_true rfl) (L1 := [some (.ref m), some (.int (nI (cd))), some (.int (nI (bf))), some (.int (nI (r))), some (.int (nI (hOrd (hLen w) r)))]) rfl ?_
                    refine x_iload_n hC d_MessageCoderModel_codes_103 rfl rfl ?_
                    refine x_iconst hC d_MessageCoderModel_codes_104 (v := nI 1) (by decide) ?_
                    refine x_iadd hC d_MessageCoderModel_codes_105 (v := (nI (cd + 1))) (x_addN (by omega)) ?_
                    refine x_aload_n hC d_MessageCoderModel_codes_106 rfl rfl ?_
                    refine x_getf hC kf_MessageCoderModel_13 o0 rfl d_MessageCoderModel_codes_107 ?_
                    refine x_iload hC d_MessageCoderModel_codes_110 rfl ?_
                    refine x_iald hC h2 (j := hOrd (hLen w) r) ⟨rfl, by omega, by omega⟩ (x := nI (hLen w (hOrd (hLen w) r))) (congrArg nI (hl2 _ ho9)) d_MessageCoderModel_codes_112 ?_
                    refine x_aload_n hC d_MessageCoderModel_codes_113 rfl rfl ?_
                    refine x_getf hC kf_MessageCoderModel_13 o0 rfl d_MessageCoderModel_codes_114 ?_
                    refine x_iload_n hC d_MessageCoderModel_codes_117 rfl rfl ?_
                    refine x_iald hC h2 (j := bf) ⟨rfl, by omega, by omega⟩ (x := nI (hLen w bf)) (congrArg nI (hl2 _ hbf8)) d_MessageCoderModel_codes_118 ?_
                    refine x_isub hC d_MessageCoderModel_codes_119 (v := (nI (hLen w (hOrd (hLen w) r) - hLen w bf))) (pk_sub hnx.1) ?_
                    refine x_ishl hC d_MessageCoderModel_codes_120 (v := (nI (hVal (hLen w) (hOrd (hLen w) r)))) (x_shlN _ (by omega) (by rw [← hnx.2]; omega) hnx.2.symm) ?_
                    refine x_istore_n hC d_MessageCoderModel_codes_121 rfl (Nat.le_of_ble_eq_true rfl) (L1 := [some (.ref m), some (.int (nI (hVal (hLen w) (hOrd (hLen w) r)))), some (.int (nI (bf))), some (.int (nI (r))), some (.int (nI (hOrd (hLen w) r)))]) rfl ?_
                    refine x_aload_n hC d_MessageCoderModel_codes_122 rfl rfl ?_
                    refine x_getf hC kf_MessageCoderModel_16 o0 rfl d_MessageCoderModel_codes_123 ?_
                    refine x_iload hC d_MessageCoderModel_codes_126 rfl ?_
                    refine x_iload_n hC d_MessageCoderModel_codes_128 rfl rfl ?_
                    refine x_iast hC h3 (j := hOrd (hLen w) r) ⟨rfl, by omega, by omega⟩ d_MessageCoderModel_codes_129 (g1 := fun b9 => nI (updN v1 (hOrd (hLen w) r) (hVal (hLen w) (hOrd (hLen w) r)) b9)) (x_updN _ _ _) ?_
                    generalize eq9 : updN v1 (hOrd (hLen w) r) (hVal (hLen w) (hOrd (hLen w) r)) = q9
                    generalize e4 : xup Fh90 (m + 3) (.inr (0, 8, fun b9 => .int (nI (q9 b9)))) = F4
                    have o0 : F4 (m) = some (.inl (10, [.int (nI (th)), .ref (m + 1), .int (nI (ch)), .int (nI (sv)), .int rs, .ref (m + 2), .ref (m + 3), .ref (m + 4), .ref (m + 5), .ref (m + 6), .int (nI (bm)), .ref (m + 7), .int (nI (dm)), .ref (m + 8), .ref (m + 9), .int (nI (lz)), .ref (m + 10), .int (nI (ty)), .int (nI (he)), .int er, .int ea, .int fa, .ref (m + 11), .int (nI (cn))])) := by rw [← e4]; exact (xup_ne (by omega)).trans o0
                    have ga : F4 (m + 1) = some (.inr (0, 4730, fun b9 => .int (nI (g b9)))) := by rw [← e4]; exact (xup_ne (by omega)).trans ga
                    have h2 : F4 (m + 2) = some (.inr (0, 8, fun b9 => .int (nI (a2 b9)))) := by rw [← e4]; exact (xup_ne (by omega)).trans h2
                    have h3 : F4 (m + 3) = some (.inr (0, 8, fun b9 => .int (nI (q9 b9)))) := by rw [← e4]; exact xup_eq
                    have h4 : F4 (m + 4) = some (.inr (0, 8, fun b9 => .int (nI (a4 b9)))) := by rw [← e4]; exact (xup_ne (by omega)).trans h4
                    have h5 : F4 (m + 5) = some (.inr (0, 8, fun b9 => .int (nI (a5 b9)))) := by rw [← e4]; exact (xup_ne (by omega)).trans h5
                    have hag : ∀ a9 : Nat, (a9 < m + 2 ∨ m + 2 + 4 ≤ a9) → F4 a9 = F a9 := fun a9 q0 => by rw [← e4]; exact (xup_ne (by omega)).trans (hag a9 q0)
                    refine x_iload hC d_MessageCoderModel_codes_130 rfl ?_
                    refine x_istore_n hC d_MessageCoderModel_codes_132 rfl (Nat.le_of_ble_eq_true rfl) (L1 := [some (.ref m), some (.int (nI (hVal (hLen w) (hOrd (hLen w) r)))), some (.int (nI (hOrd (hLen w) r))), some (.int (nI (r))), some (.int (nI (hOrd (hLen w) r)))]) rfl ?_
                    refine x_iinc hC d_MessageCoderModel_codes_133 rfl (v := (nI (r + 1))) (x_incN 1) (Nat.le_of_ble_eq_true rfl) (L1 := [some (.ref m), some (.int (nI (hVal (hLen w) (hOrd (hLen w) r)))), some (.int (nI (hOrd (hLen w) r))), some (.int (nI (r + 1))), some (.int (nI (hOrd (hLen w) r)))]) rfl ?_
                    refine x_goto hC d_MessageCoderModel_codes_136 (tgt := 90) (by decide) ?_
                    refine x_forget (L1 := [some (.ref m), some (.int (nI (hVal (hLen w) (hOrd (hLen w) r)))), some (.int (nI (hOrd (hLen w) r))), some (.int (nI (r + 1))), none]) ⟨Or.inr rfl, ⟨Or.inr rfl, ⟨Or.inr rfl, ⟨Or.inr rfl, ⟨Or.inl rfl, trivial⟩⟩⟩⟩⟩ ?_
                    exact ih_90 F4 (r + 1) (q9) (hVal (hLen w) (hOrd (hLen w) r)) (hOrd (hLen w) r) o0 ga h2 h3 h4 h5 hag (by omega) (by rw [show r + 1 - 1 = r by omega]) (by rw [show r + 1 - 1 = r by omega]) (fun q hq => (Nat.lt_or_ge q r).elim (fun e => by rw [← eq9, updN_ne (fun h9 => by have e1 := (hOrd_8 (hLen w) (r := q) (by omega)).2; rw [h9, (hOrd_8 (hLen w) (r := r) (by omega)).2] at e1; omega)]; exact kv q e) (fun e => by rw [← eq9, show q = r by omega, updN_eq])) (by omega)
              exact loop_90 (8 - 1 + 1) F2 (1) (q3) (0) (hOrd (hLen w) 0) o0 ga h2 h3 h4 h5 hag (by omega) (hv0.symm) (rfl) (fun q hq => by rw [← eq3, show q = 0 by omega, updN_eq, hv0]) (by omega)
            · skip
              have h2w := hJ_two w (show i - 1 < 7 by omega)
              have hJb1 := hJ_bd hw9 (i - 1) (by omega)
              have hI := hInv_J w (i - 1) (by omega)
              have e12 := hJs_ext (s := hJ w (i - 1)) (fun j hj => (ka j hj).1) (fun j hj => (ka j hj).2.1)
              obtain ⟨pa, hpa⟩ : ∃ q, q = hJa (hJ w (i - 1)) := ⟨_, rfl⟩
              obtain ⟨pb, hpb⟩ : ∃ q, q = hJb (hJ w (i - 1)) := ⟨_, rfl⟩
              rw [← hpa, ← hpb] at h2w e12
              refine x_aload_n hC d_MessageCoderModel_codes_51 rfl rfl ?_
              refine x_iconst hC d_MessageCoderModel_codes_52 (v := -1) (by decide) ?_
              refine x_top (v := (xo 8)) xo_8.symm ?_
              refine x_callV hC kv_MessageCoderModel_72 (c_MessageCoderModel_lowest (o0 := o0) (h4 := h4) (h5 := h5) (hb := by omega) (hgr := fun j hj => by rw [(ka j hj).1]; exact (hI.1 j hj).1) (hgw := fun j hj => by rw [(ka j hj).2.1]; have := hJb1 j hj; omega) (b := 8)) o0 rfl rfl (by decide) rfl rfl rfl (Nat.le_of_ble_eq_true rfl) (by decide) d_MessageCoderModel_codes_53 (fun r9 F9 z9 hp9 => ?_)
              obtain ⟨rfl, h9b, h9c⟩ := hp9
              rw [h9b, h9c]
              clear h9b h9c F9 z9
              refine x_top (v := (nI (pa))) (by rw [e12.1]; exact xo_of h2w.1) ?_
              refine x_istore_n hC d_MessageCoderModel_codes_56 rfl (Nat.le_of_ble_eq_true rfl) (L1 := [some (.ref m), some (.int (nI (i))), some (.int (nI (pa))), none, none]) rfl ?_
              refine x_aload_n hC d_MessageCoderModel_codes_57 rfl rfl ?_
              refine x_iload_n hC d_MessageCoderModel_codes_58 rfl rfl ?_
              refine x_aload_n hC d_MessageCoderModel_codes_59 rfl rfl ?_
              refine x_iload_n hC d_MessageCoderModel_codes_60 rfl rfl ?_
              refine x_top (v := (xo pa)) (xo_of h2w.1).symm ?_
              refine x_callV hC kv_MessageCoderModel_72 (c_MessageCoderModel_lowest (o0 := o0) (h4 := h4) (h5 := h5) (hb := by have := h2w.1; omega) (hgr := fun j hj => by rw [(ka j hj).1]; exact (hI.1 j hj).1) (hgw := fun j hj => by rw [(ka j hj).2.1]; have := hJb1 j hj; omega) (b := pa)) o0 rfl rfl (by decide) rfl rfl rfl (Nat.le_of_ble_eq_true rfl) (by decide) d_MessageCoderModel_codes_61 (fun r9 F9 z9 hp9 => ?_)
              obtain ⟨rfl, h9b, h9c⟩ := hp9
              rw [h9b, h9c]
              clear h9b h9c F9 z9
              refine x_top (v := (nI (pb))) (by rw [e12.2]; exact xo_of h2w.2.1) ?_
              refine x_callV hC kv_MessageCoderModel_75 (c_MessageCoderModel_joins (o0 := o0) (h2 := h2) (h4 := h4) (h5 := h5) (ha := h2w.1) (hb := h2w.2.1) (hgr := fun j hj => by rw [(ka j hj).1]; exact (hI.1 j hj).1) (hln := fun j hj => by rw [(ka j hj).2.2]; have := hI.2.2.1 j hj; omega) (hgw := fun j hj => by rw [(ka j hj).2.1]; have := hJb1 j hj; omega)) o0 rfl rfl (by decide) rfl rfl rfl (Nat.le_of_ble_eq_true rfl) (by decide) d_MessageCoderModel_codes_64 (fun r9 F9 z9 hp9 => ?_)
              obtain ⟨ln1_64, gr1_64, rfl, h9c, j0, j1, j2, j3, pk_64, hag9⟩ := hp9
              rw [h9c]
              clear h9c z9
              generalize F9 = F5 at *
              have ga : F5 (m + 1) = some (.inr (0, 4730, fun b9 => .int (nI (g b9)))) := (hag9 _ (by omega) (by omega)).trans ga
              have h3 : F5 (m + 3) = some (.inr (0, 8, fun b9 => .int (nI (v0 b9)))) := (hag9 _ (by omega) (by omega)).trans h3
              have o0 : F5 (m) = some (.inl (10, [.int (nI (th)), .ref (m + 1), .int (nI (ch)), .int (nI (sv)), .int rs, .ref (m + 2), .ref (m + 3), .ref (m + 4), .ref (m + 5), .ref (m + 6), .int (nI (bm)), .ref (m + 7), .int (nI (dm)), .ref (m + 8), .ref (m + 9), .int (nI (lz)), .ref (m + 10), .int (nI (ty)), .int (nI (he)), .int er, .int ea, .int fa, .ref (m + 11), .int (nI (cn))])) := j0
              have h2 : F5 (m + 2) = some (.inr (0, 8, fun b9 => .int (nI (ln1_64 b9)))) := j1
              have h4 : F5 (m + 4) = some (.inr (0, 8, fun b9 => .int (nI (gr1_64 b9)))) := j2
              have h5 : F5 (m + 5) = some (.inr (0, 8, fun b9 => .int (nI ((updN a5 (min pa pb) (a5 pa + a5 pb)) b9)))) := j3
              have hag : ∀ a9 : Nat, (a9 < m + 2 ∨ m + 2 + 4 ≤ a9) → F5 a9 = F a9 := fun a9 q0 => (hag9 a9 (by omega) (by omega)).trans (hag a9 q0)
              have hg_64 := hag9
              clear hag9
              have st9 := hJs_step hpa hpb h2w.1 h2w.2.1 ka pk_64
              refine x_iinc hC d_MessageCoderModel_codes_67 rfl (v := (nI (i + 1))) (x_incN 1) (Nat.le_of_ble_eq_true rfl) (L1 := [some (.ref m), some (.int (nI (i + 1))), some (.int (nI (pa))), none, none]) rfl ?_
              refine x_goto hC d_MessageCoderModel_codes_70 (tgt := 45) (by decide) ?_
              refine x_forget (L1 := [some (.ref m), some (.int (nI (i + 1))), none, none, none]) ⟨Or.inr rfl, ⟨Or.inr rfl, ⟨Or.inl rfl, ⟨Or.inl rfl, ⟨Or.inl rfl, trivial⟩⟩⟩⟩⟩ ?_
              exact ih_45 F5 (i + 1) (gr1_64) ((updN a5 (min pa pb) (a5 pa + a5 pb))) (ln1_64) o0 ga h2 h3 h4 h5 hag (by omega) (by rw [show i + 1 - 1 = i by omega, hJ_succ w hi.1]; exact st9.1) (by omega)
        exact loop_45 (8 - 1 + 1) Fh2 (1) (p4) (p5) (p2) o0 ga h2 h3 h4 h5 hag (by omega) (fun j hj => kz j (by omega)) (by omega)
      · skip
        refine x_aload_n hC d_MessageCoderModel_codes_8 rfl rfl ?_
        refine x_getf hC kf_MessageCoderModel_19 o0 rfl d_MessageCoderModel_codes_9 ?_
        refine x_iload_n hC d_MessageCoderModel_codes_12 rfl rfl ?_
        refine x_iload_n hC d_MessageCoderModel_codes_13 rfl rfl ?_
        refine x_iast hC h4 (j := i) ⟨rfl, by omega, by omega⟩ d_MessageCoderModel_codes_14 (g1 := fun b9 => nI (updN p4 (i) (i) b9)) (x_updN _ _ _) ?_
        generalize eq4 : updN p4 (i) (i) = q4
        generalize e7 : xup Fh2 (m + 4) (.inr (0, 8, fun b9 => .int (nI (q4 b9)))) = F7
        have o0 : F7 (m) = some (.inl (10, [.int (nI (th)), .ref (m + 1), .int (nI (ch)), .int (nI (sv)), .int rs, .ref (m + 2), .ref (m + 3), .ref (m + 4), .ref (m + 5), .ref (m + 6), .int (nI (bm)), .ref (m + 7), .int (nI (dm)), .ref (m + 8), .ref (m + 9), .int (nI (lz)), .ref (m + 10), .int (nI (ty)), .int (nI (he)), .int er, .int ea, .int fa, .ref (m + 11), .int (nI (cn))])) := by rw [← e7]; exact (xup_ne (by omega)).trans o0
        have ga : F7 (m + 1) = some (.inr (0, 4730, fun b9 => .int (nI (g b9)))) := by rw [← e7]; exact (xup_ne (by omega)).trans ga
        have h2 : F7 (m + 2) = some (.inr (0, 8, fun b9 => .int (nI (p2 b9)))) := by rw [← e7]; exact (xup_ne (by omega)).trans h2
        have h3 : F7 (m + 3) = some (.inr (0, 8, fun b9 => .int (nI (v0 b9)))) := by rw [← e7]; exact (xup_ne (by omega)).trans h3
        have h4 : F7 (m + 4) = some (.inr (0, 8, fun b9 => .int (nI (q4 b9)))) := by rw [← e7]; exact xup_eq
        have h5 : F7 (m + 5) = some (.inr (0, 8, fun b9 => .int (nI (p5 b9)))) := by rw [← e7]; exact (xup_ne (by omega)).trans h5
        have hag : ∀ a9 : Nat, (a9 < m + 2 ∨ m + 2 + 4 ≤ a9) → F7 a9 = F a9 := fun a9 q0 => by rw [← e7]; exact (xup_ne (by omega)).trans (hag a9 q0)
        refine x_aload_n hC d_MessageCoderModel_codes_15 rfl rfl ?_
        refine x_getf hC kf_MessageCoderModel_22 o0 rfl d_MessageCoderModel_codes_16 ?_
        refine x_iload_n hC d_MessageCoderModel_codes_19 rfl rfl ?_
        refine x_aload_n hC d_MessageCoderModel_codes_20 rfl rfl ?_
        refine x_getf hC kf_MessageCoderModel_9 o0 rfl d_MessageCoderModel_codes_21 ?_
        refine x_bipush hC d_MessageCoderModel_codes_24 (v := nI 10) (by decide) ?_
        refine x_iload_n hC d_MessageCoderModel_codes_26 rfl rfl ?_
        refine x_iadd hC d_MessageCoderModel_codes_27 (v := (nI (10 + i))) (x_addN (by omega)) ?_
        refine x_iald hC ga (j := 10 + i) ⟨rfl, by omega, by omega⟩ (x := nI (g (10 + i))) rfl d_MessageCoderModel_codes_28 ?_
        refine x_iast hC h5 (j := i) ⟨rfl, by omega, by omega⟩ d_MessageCoderModel_codes_29 (g1 := fun b9 => nI (updN p5 (i) (g (10 + i)) b9)) (x_updN _ _ _) ?_
        generalize eq5 : updN p5 (i) (g (10 + i)) = q5
        generalize e9 : xup F7 (m + 5) (.inr (0, 8, fun b9 => .int (nI (q5 b9)))) = F9
        have o0 : F9 (m) = some (.inl (10, [.int (nI (th)), .ref (m + 1), .int (nI (ch)), .int (nI (sv)), .int rs, .ref (m + 2), .ref (m + 3), .ref (m + 4), .ref (m + 5), .ref (m + 6), .int (nI (bm)), .ref (m + 7), .int (nI (dm)), .ref (m + 8), .ref (m + 9), .int (nI (lz)), .ref (m + 10), .int (nI (ty)), .int (nI (he)), .int er, .int ea, .int fa, .ref (m + 11), .int (nI (cn))])) := by rw [← e9]; exact (xup_ne (by omega)).trans o0
        have ga : F9 (m + 1) = some (.inr (0, 4730, fun b9 => .int (nI (g b9)))) := by rw [← e9]; exact (xup_ne (by omega)).trans ga
        have h2 : F9 (m + 2) = some (.inr (0, 8, fun b9 => .int (nI (p2 b9)))) := by rw [← e9]; exact (xup_ne (by omega)).trans h2
        have h3 : F9 (m + 3) = some (.inr (0, 8, fun b9 => .int (nI (v0 b9)))) := by rw [← e9]; exact (xup_ne (by omega)).trans h3
        have h4 : F9 (m + 4) = some (.inr (0, 8, fun b9 => .int (nI (q4 b9)))) := by rw [← e9]; exact (xup_ne (by omega)).trans h4
        have h5 : F9 (m + 5) = some (.inr (0, 8, fun b9 => .int (nI (q5 b9)))) := by rw [← e9]; exact xup_eq
        have hag : ∀ a9 : Nat, (a9 < m + 2 ∨ m + 2 + 4 ≤ a9) → F9 a9 = F a9 := fun a9 q0 => by rw [← e9]; exact (xup_ne (by omega)).trans (hag a9 q0)
        refine x_aload_n hC d_MessageCoderModel_codes_30 rfl rfl ?_
        refine x_getf hC kf_MessageCoderModel_13 o0 rfl d_MessageCoderModel_codes_31 ?_
        refine x_iload_n hC d_MessageCoderModel_codes_34 rfl rfl ?_
        refine x_iconst hC d_MessageCoderModel_codes_35 (v := nI 0) (by decide) ?_
        refine x_iast hC h2 (j := i) ⟨rfl, by omega, by omega⟩ d_MessageCoderModel_codes_36 (g1 := fun b9 => nI (updN p2 (i) (0) b9)) (x_updN _ _ _) ?_
        generalize eq2 : updN p2 (i) (0) = q2
        generalize e11 : xup F9 (m + 2) (.inr (0, 8, fun b9 => .int (nI (q2 b9)))) = F11
        have o0 : F11 (m) = some (.inl (10, [.int (nI (th)), .ref (m + 1), .int (nI (ch)), .int (nI (sv)), .int rs, .ref (m + 2), .ref (m + 3), .ref (m + 4), .ref (m + 5), .ref (m + 6), .int (nI (bm)), .ref (m + 7), .int (nI (dm)), .ref (m + 8), .ref (m + 9), .int (nI (lz)), .ref (m + 10), .int (nI (ty)), .int (nI (he)), .int er, .int ea, .int fa, .ref (m + 11), .int (nI (cn))])) := by rw [← e11]; exact (xup_ne (by omega)).trans o0
        have ga : F11 (m + 1) = some (.inr (0, 4730, fun b9 => .int (nI (g b9)))) := by rw [← e11]; exact (xup_ne (by omega)).trans ga
        have h2 : F11 (m + 2) = some (.inr (0, 8, fun b9 => .int (nI (q2 b9)))) := by rw [← e11]; exact xup_eq
        have h3 : F11 (m + 3) = some (.inr (0, 8, fun b9 => .int (nI (v0 b9)))) := by rw [← e11]; exact (xup_ne (by omega)).trans h3
        have h4 : F11 (m + 4) = some (.inr (0, 8, fun b9 => .int (nI (q4 b9)))) := by rw [← e11]; exact (xup_ne (by omega)).trans h4
        have h5 : F11 (m + 5) = some (.inr (0, 8, fun b9 => .int (nI (q5 b9)))) := by rw [← e11]; exact (xup_ne (by omega)).trans h5
        have hag : ∀ a9 : Nat, (a9 < m + 2 ∨ m + 2 + 4 ≤ a9) → F11 a9 = F a9 := fun a9 q0 => by rw [← e11]; exact (xup_ne (by omega)).trans (hag a9 q0)
        refine x_iinc hC d_MessageCoderModel_codes_37 rfl (v := (nI (i + 1))) (x_incN 1) (Nat.le_of_ble_eq_true rfl) (L1 := [some (.ref m), some (.int (nI (i + 1))), none, none, none]) rfl ?_
        refine x_goto hC d_MessageCoderModel_codes_40 (tgt := 2) (by decide) ?_
        exact ih_2 F11 (i + 1) (q4) (q5) (q2) o0 ga h2 h3 h4 h5 hag (by omega) (fun q hq => (Nat.lt_or_ge q i).elim (fun e => by rw [← eq4, ← eq5, ← eq2, updN_ne (by omega), updN_ne (by omega), updN_ne (by omega)]; exact kz q e) (fun e => by rw [← eq4, ← eq5, ← eq2, show q = i by omega, updN_eq, updN_eq, updN_eq]; exact ⟨rfl, hw i (by omega), rfl⟩)) (by omega)
  exact loop_2 (8 - 0 + 1) F (0) (r0) (w0) (l0) o0 ga h2 h3 h4 h5 hag (by omega) (fun _ hq => absurd hq (by omega)) (by omega)

