/-! the reference: send, flip, receive -/

theorem d_MessageCoderModel_flips_0 : decode prog_14_method_50_code 0 = .ok (.iload_n 1, 1) := by decide +kernel
theorem d_MessageCoderModel_flips_1 : decode prog_14_method_50_code 1 = .ok (.iconst 0, 1) := by decide +kernel
theorem d_MessageCoderModel_flips_2 : decode prog_14_method_50_code 2 = .ok (.aload_n 0, 1) := by decide +kernel
theorem d_MessageCoderModel_flips_3 : decode prog_14_method_50_code 3 = .ok (.getfield 9, 3) := by decide +kernel
theorem d_MessageCoderModel_flips_6 : decode prog_14_method_50_code 6 = .ok (.bipush 7, 2) := by decide +kernel
theorem d_MessageCoderModel_flips_8 : decode prog_14_method_50_code 8 = .ok (.iaload, 1) := by decide +kernel
theorem d_MessageCoderModel_flips_9 : decode prog_14_method_50_code 9 = .ok (.iconst 1, 1) := by decide +kernel
theorem d_MessageCoderModel_flips_10 : decode prog_14_method_50_code 10 = .ok (.isub, 1) := by decide +kernel
theorem d_MessageCoderModel_flips_11 : decode prog_14_method_50_code 11 = .ok (.invokestatic 64, 3) := by decide +kernel
theorem d_MessageCoderModel_flips_14 : decode prog_14_method_50_code 14 = .ok (.ifCond .ne 5, 3) := by decide +kernel
theorem d_MessageCoderModel_flips_17 : decode prog_14_method_50_code 17 = .ok (.iconst 4, 1) := by decide +kernel
theorem d_MessageCoderModel_flips_18 : decode prog_14_method_50_code 18 = .ok (.ireturn, 1) := by decide +kernel
theorem d_MessageCoderModel_flips_19 : decode prog_14_method_50_code 19 = .ok (.aload_n 0, 1) := by decide +kernel
theorem d_MessageCoderModel_flips_20 : decode prog_14_method_50_code 20 = .ok (.getfield 9, 3) := by decide +kernel
theorem d_MessageCoderModel_flips_23 : decode prog_14_method_50_code 23 = .ok (.sipush 234, 3) := by decide +kernel
theorem d_MessageCoderModel_flips_26 : decode prog_14_method_50_code 26 = .ok (.iload_n 1, 1) := by decide +kernel
theorem d_MessageCoderModel_flips_27 : decode prog_14_method_50_code 27 = .ok (.iadd, 1) := by decide +kernel
theorem d_MessageCoderModel_flips_28 : decode prog_14_method_50_code 28 = .ok (.dup2, 1) := by decide +kernel
theorem d_MessageCoderModel_flips_29 : decode prog_14_method_50_code 29 = .ok (.iaload, 1) := by decide +kernel
theorem d_MessageCoderModel_flips_30 : decode prog_14_method_50_code 30 = .ok (.iconst 1, 1) := by decide +kernel
theorem d_MessageCoderModel_flips_31 : decode prog_14_method_50_code 31 = .ok (.ixor, 1) := by decide +kernel
theorem d_MessageCoderModel_flips_32 : decode prog_14_method_50_code 32 = .ok (.iastore, 1) := by decide +kernel
theorem d_MessageCoderModel_flips_33 : decode prog_14_method_50_code 33 = .ok (.aload_n 0, 1) := by decide +kernel
theorem d_MessageCoderModel_flips_34 : decode prog_14_method_50_code 34 = .ok (.aload_n 0, 1) := by decide +kernel
theorem d_MessageCoderModel_flips_35 : decode prog_14_method_50_code 35 = .ok (.invokevirtual 182, 3) := by decide +kernel
theorem d_MessageCoderModel_flips_38 : decode prog_14_method_50_code 38 = .ok (.putfield 61, 3) := by decide +kernel
theorem d_MessageCoderModel_flips_41 : decode prog_14_method_50_code 41 = .ok (.iconst 0, 1) := by decide +kernel
theorem d_MessageCoderModel_flips_42 : decode prog_14_method_50_code 42 = .ok (.ireturn, 1) := by decide +kernel
set_option maxHeartbeats 4000000 in
set_option maxRecDepth 20000 in
theorem c_MessageCoderModel_flips {P : xP} {F : xF} {z : Nat} {m : Nat} {th : Nat} {ch : Nat} {sv : Nat} {rs : Int32} {bm : Nat} {dm : Nat} {lz : Nat} {ty : Nat} {he : Nat} {er : Int32} {ea : Int32} {fa : Int32} {cn : Nat} {g : Nat → Nat} {A : aS} {v : Int32} (o0 : F (m) = some (.inl (10, [.int (nI (th)), .ref (m + 1), .int (nI (ch)), .int (nI (sv)), .int rs, .ref (m + 2), .ref (m + 3), .ref (m + 4), .ref (m + 5), .ref (m + 6), .int (nI (bm)), .ref (m + 7), .int (nI (dm)), .ref (m + 8), .ref (m + 9), .int (nI (lz)), .ref (m + 10), .int (nI (ty)), .int (nI (he)), .int er, .int ea, .int fa, .ref (m + 11), .int (nI (cn))]))) (ga : F (m + 1) = some (.inr (0, 4730, fun b9 => .int (nI (g b9))))) (hr : rRow g A) (hA : aInv A) : xM P xy_MessageCoderModel_flips [.ref m, .int v] F (z) 0 0 (fun r9 F9 z9 => ∃ g1 : Nat → Nat, ∃ rs1 : Int32, r9 = some (.int (nI (codN (aFl A v).1))) ∧ z9 = z ∧ F9 (m) = some (.inl (10, [.int (nI (th)), .ref (m + 1), .int (nI (ch)), .int (nI (sv)), .int rs1, .ref (m + 2), .ref (m + 3), .ref (m + 4), .ref (m + 5), .ref (m + 6), .int (nI (bm)), .ref (m + 7), .int (nI (dm)), .ref (m + 8), .ref (m + 9), .int (nI (lz)), .ref (m + 10), .int (nI (ty)), .int (nI (he)), .int er, .int ea, .int fa, .ref (m + 11), .int (nI (cn))])) ∧ F9 (m + 1) = some (.inr (0, 4730, fun b9 => .int (nI (g1 b9)))) ∧ (rRow g1 (aFl A v).2) ∧ (∀ q, 430 ≤ q → g1 q = g q) ∧ (codN (aFl A v).1 = 0 → rs1 = (aFl A v).1) ∧ (∀ a9 : Nat, (a9 < m ∨ m + 2 ≤ a9) → F9 a9 = F a9)) := by
  refine xM_i .int rfl (Nat.le_of_ble_eq_true rfl) (L0 := [some (.ref m), some (.int v)]) rfl rfl fun Θ hC hret => ?_
  have hag : ∀ a9 : Nat, (a9 < m ∨ m + 2 ≤ a9) → F a9 = F a9 := fun a9 _ => rfl
  obtain ⟨⟨q0, q1, q2, q3, q4, q5, q6, q7, q9⟩, qw, qd, qm, qf, qx, qb⟩ := id hr
  obtain ⟨⟨u1, u2, u3, u4, u5⟩, uw, ud, um, uo, ut, ux, ub, un9⟩ := id hA
  refine x_iload_n hC d_MessageCoderModel_flips_0 rfl rfl ?_
  refine x_iconst hC d_MessageCoderModel_flips_1 (v := nI 0) (by decide) ?_
  refine x_aload_n hC d_MessageCoderModel_flips_2 rfl rfl ?_
  refine x_getf hC kf_MessageCoderModel_9 o0 rfl d_MessageCoderModel_flips_3 ?_
  refine x_bipush hC d_MessageCoderModel_flips_6 (v := nI 7) (by decide) ?_
  refine x_iald hC ga (j := 7) ⟨rfl, by omega, by omega⟩ (x := nI (A.2.2.2.1.1 * 7)) (congrArg nI q7) d_MessageCoderModel_flips_8 ?_
  refine x_iconst hC d_MessageCoderModel_flips_9 (v := nI 1) (by decide) ?_
  refine x_isub hC d_MessageCoderModel_flips_10 (v := (nI (A.2.2.2.1.1 * 7) - nI 1)) rfl ?_
  refine x_callS hC ks_MessageCoderModel_64 (c_MessageCoderModel_in ) (by decide) rfl rfl rfl (Nat.le_of_ble_eq_true rfl) (by decide) d_MessageCoderModel_flips_11 (fun r9 F9 z9 hp9 => ?_)
  obtain ⟨rfl, h9b, h9c⟩ := hp9
  rw [h9b, h9c]
  clear h9b h9c F9 z9
  refine x_ifB_ne hC d_MessageCoderModel_flips_14 (tgt := 19) (by decide) (fun c_14 => ?_) (fun c_14 => ?_)
  · skip
    have hc := (fl_iff (n := A.2.2.2.1.1 * 7) (by omega)).mp c_14
    have hq9 : v.toNatClampNeg < A.2.2.2.1.1 * 7 := i2n_lt hc.1 hc.2 (by omega)
    have hve := i2n_of hc.1
    refine x_aload_n hC d_MessageCoderModel_flips_19 rfl rfl ?_
    refine x_getf hC kf_MessageCoderModel_9 o0 rfl d_MessageCoderModel_flips_20 ?_
    refine x_sipush hC d_MessageCoderModel_flips_23 (v := nI 234) (by decide) ?_
    refine x_iload_n hC d_MessageCoderModel_flips_26 rfl rfl ?_
    refine x_top (v := (nI (v.toNatClampNeg))) hve ?_
    refine x_iadd hC d_MessageCoderModel_flips_27 (v := (nI ((234) + (v.toNatClampNeg)))) (x_addN (by omega)) ?_
    refine x_dup2 hC d_MessageCoderModel_flips_28 rfl rfl ?_
    refine x_iald hC ga (j := (234) + (v.toNatClampNeg)) ⟨rfl, by omega, by omega⟩ (x := nI (g ((234) + (v.toNatClampNeg)))) rfl d_MessageCoderModel_flips_29 ?_
    refine x_iconst hC d_MessageCoderModel_flips_30 (v := nI 1) (by decide) ?_
    refine x_ixor hC d_MessageCoderModel_flips_31 (v := (nI (g ((234) + (v.toNatClampNeg)) ^^^ 1))) (x_xorN _ _) ?_
    refine x_iast hC ga (j := (234) + (v.toNatClampNeg)) ⟨rfl, by omega, by omega⟩ d_MessageCoderModel_flips_32 (g1 := fun b9 => nI (updN g ((234) + (v.toNatClampNeg)) (g ((234) + (v.toNatClampNeg)) ^^^ 1) b9)) (x_updN _ _ _) ?_
    generalize eg1 : updN g ((234) + (v.toNatClampNeg)) (g ((234) + (v.toNatClampNeg)) ^^^ 1) = g1
    generalize e2 : xup F (m + 1) (.inr (0, 4730, fun b9 => .int (nI (g1 b9)))) = F2
    have o0 : F2 (m) = some (.inl (10, [.int (nI (th)), .ref (m + 1), .int (nI (ch)), .int (nI (sv)), .int rs, .ref (m + 2), .ref (m + 3), .ref (m + 4), .ref (m + 5), .ref (m + 6), .int (nI (bm)), .ref (m + 7), .int (nI (dm)), .ref (m + 8), .ref (m + 9), .int (nI (lz)), .ref (m + 10), .int (nI (ty)), .int (nI (he)), .int er, .int ea, .int fa, .ref (m + 11), .int (nI (cn))])) := by rw [← e2]; exact (xup_ne (by omega)).trans o0
    have ga : F2 (m + 1) = some (.inr (0, 4730, fun b9 => .int (nI (g1 b9)))) := by rw [← e2]; exact xup_eq
    have hag : ∀ a9 : Nat, (a9 < m ∨ m + 2 ≤ a9) → F2 a9 = F a9 := fun a9 q0 => by rw [← e2]; exact (xup_ne (by omega)).trans (hag a9 q0)
    have hf : ∀ q, q ≠ 234 + v.toNatClampNeg → g1 q = g q := fun q hq => by rw [← eg1, updN_ne hq]
    have kr : rRow g1 (A.1, A.2.1, A.2.2.1, (A.2.2.2.1.1, flpB A.2.2.2.1.2.1 v.toNatClampNeg, A.2.2.2.1.2.2), A.2.2.2.2) := ⟨⟨(hf 0 (by omega)).trans q0, (hf 1 (by omega)).trans q1, (hf 2 (by omega)).trans q2, (hf 3 (by omega)).trans q3, (hf 4 (by omega)).trans q4, (hf 5 (by omega)).trans q5, (hf 6 (by omega)).trans q6, (hf 7 (by omega)).trans q7, (hf 9 (by omega)).trans q9⟩, fun j (hj : j < 8) => (hf _ (by omega)).trans (qw j hj), fun j (hj : j < A.2.1.1) => by rw [hf _ (by omega)]; exact qd j hj, fun i (hi : i < A.2.2.1.1) => rMsg_ext (um i hi).2.2.1 (fun q hq => hf _ (by omega)) (qm i hi), fun (hk : 0 < A.2.2.2.1.1) => ⟨(hf 8 (by omega)).trans (qf hk).1, fun j hj => ⟨(hf _ (by omega)).trans ((qf hk).2.1 j hj).1, (hf _ (by omega)).trans ((qf hk).2.1 j hj).2⟩, fun j (hj : j < A.2.2.2.1.2.2.1) => by rw [hf _ (by omega)]; exact (qf hk).2.2 j hj⟩, fun j (hj : j < A.2.2.2.2.1.1) => by rw [hf _ (by omega)]; exact qx j hj, fun b (hb : b < A.2.2.2.1.1) p hp => by show g1 (234 + 7 * b + p) = bitP (flpB A.2.2.2.1.2.1 v.toNatClampNeg b) (p + 1); have hx := ub b hb; unfold flpB; by_cases e : b = v.toNatClampNeg / 7; (rw [← e, updN_eq, flp_bit _ hx _ (Nat.mod_lt _ (by decide)) p hp]; by_cases c : p = v.toNatClampNeg % 7; (rw [if_pos c, ← eg1, updN_at (by omega)]; exact congrArg (· ^^^ 1) ((congrArg g (by omega)).trans (qb b hb p hp))); (rw [if_neg c, hf _ (by omega)]; exact qb b hb p hp)); (rw [updN_ne e, hf _ (by omega)]; exact qb b hb p hp)⟩
    have ko : ∀ q, 430 ≤ q → g1 q = g q := fun q hq => hf q (by omega)
    have kA : aInv (A.1, A.2.1, A.2.2.1, (A.2.2.2.1.1, flpB A.2.2.2.1.2.1 v.toNatClampNeg, A.2.2.2.1.2.2), A.2.2.2.2) := inv_F hA _
    have hdm : dmgN (flpB A.2.2.2.1.2.1 v.toNatClampNeg) A.2.2.2.1.1 ≤ A.2.2.2.1.1 := dmgN_le _ _
    refine x_aload_n hC d_MessageCoderModel_flips_33 rfl rfl ?_
    refine x_aload_n hC d_MessageCoderModel_flips_34 rfl rfl ?_
    refine x_callV hC kv_MessageCoderModel_182 (c_MessageCoderModel_damaged (o0 := o0) (ga := ga) (hr := kr) (hA := kA) (A := (A.1, A.2.1, A.2.2.1, (A.2.2.2.1.1, flpB A.2.2.2.1.2.1 v.toNatClampNeg, A.2.2.2.1.2.2), A.2.2.2.2))) o0 rfl rfl (by decide) rfl rfl rfl (Nat.le_of_ble_eq_true rfl) (by decide) d_MessageCoderModel_flips_35 (fun r9 F9 z9 hp9 => ?_)
    obtain ⟨rfl, h9b, h9c⟩ := hp9
    rw [h9b, h9c]
    clear h9b h9c F9 z9
    refine x_top (v := (nI (dmgN (flpB A.2.2.2.1.2.1 v.toNatClampNeg) A.2.2.2.1.1))) rfl ?_
    refine x_putf hC kf_MessageCoderModel_61 o0 (Nat.le_of_ble_eq_true rfl) rfl rfl d_MessageCoderModel_flips_38 (fs1 := [.int (nI (th)), .ref (m + 1), .int (nI (ch)), .int (nI (sv)), .int (nI (dmgN (flpB A.2.2.2.1.2.1 v.toNatClampNeg) A.2.2.2.1.1)), .ref (m + 2), .ref (m + 3), .ref (m + 4), .ref (m + 5), .ref (m + 6), .int (nI (bm)), .ref (m + 7), .int (nI (dm)), .ref (m + 8), .ref (m + 9), .int (nI (lz)), .ref (m + 10), .int (nI (ty)), .int (nI (he)), .int er, .int ea, .int fa, .ref (m + 11), .int (nI (cn))]) rfl ?_
    generalize e3 : xup F2 (m) (.inl (10, [.int (nI (th)), .ref (m + 1), .int (nI (ch)), .int (nI (sv)), .int (nI (dmgN (flpB A.2.2.2.1.2.1 v.toNatClampNeg) A.2.2.2.1.1)), .ref (m + 2), .ref (m + 3), .ref (m + 4), .ref (m + 5), .ref (m + 6), .int (nI (bm)), .ref (m + 7), .int (nI (dm)), .ref (m + 8), .ref (m + 9), .int (nI (lz)), .ref (m + 10), .int (nI (ty)), .int (nI (he)), .int er, .int ea, .int fa, .ref (m + 11), .int (nI (cn))])) = F3
    have o0 : F3 (m) = some (.inl (10, [.int (nI (th)), .ref (m + 1), .int (nI (ch)), .int (nI (sv)), .int (nI (dmgN (flpB A.2.2.2.1.2.1 v.toNatClampNeg) A.2.2.2.1.1)), .ref (m + 2), .ref (m + 3), .ref (m + 4), .ref (m + 5), .ref (m + 6), .int (nI (bm)), .ref (m + 7), .int (nI (dm)), .ref (m + 8), .ref (m + 9), .int (nI (lz)), .ref (m + 10), .int (nI (ty)), .int (nI (he)), .int er, .int ea, .int fa, .ref (m + 11), .int (nI (cn))])) := by rw [← e3]; exact xup_eq
    have ga : F3 (m + 1) = some (.inr (0, 4730, fun b9 => .int (nI (g1 b9)))) := by rw [← e3]; exact (xup_ne (by omega)).trans ga
    have hag : ∀ a9 : Nat, (a9 < m ∨ m + 2 ≤ a9) → F3 a9 = F a9 := fun a9 q0 => by rw [← e3]; exact (xup_ne (by omega)).trans (hag a9 q0)
    refine x_iconst hC d_MessageCoderModel_flips_41 (v := nI 0) (by decide) ?_
    refine hret _ _ _ _ _ _ _ d_MessageCoderModel_flips_42 (by decide) (by decide) rfl ?_
    have e9 : aFl A v = (nI (dmgN (flpB A.2.2.2.1.2.1 v.toNatClampNeg) A.2.2.2.1.1), (A.1, A.2.1, A.2.2.1, (A.2.2.2.1.1, flpB A.2.2.2.1.2.1 v.toNatClampNeg, A.2.2.2.1.2.2), A.2.2.2.2)) := if_pos hc
    exact ⟨g1, nI (dmgN (flpB A.2.2.2.1.2.1 v.toNatClampNeg) A.2.2.2.1.1), by rw [e9, codN_n (by omega)], rfl, o0, ga, by rw [e9]; exact kr, ko, fun _ => by rw [e9], hag⟩
  · skip
    refine x_iconst hC d_MessageCoderModel_flips_17 (v := nI 4) (by decide) ?_
    refine hret _ _ _ _ _ _ _ d_MessageCoderModel_flips_18 (by decide) (by decide) rfl ?_
    have e9 : aFl A v = (-4, A) := if_neg (fun h9 => c_14 ((fl_iff (by omega)).mpr h9))
    exact ⟨g, rs, by rw [e9]; rfl, rfl, o0, ga, by rw [e9]; exact hr, fun _ _ => rfl, fun h9 => absurd h9 (by rw [e9]; show ¬ codN (-4) = 0; decide), hag⟩

theorem d_MessageCoderModel_receives_0 : decode prog_14_method_52_code 0 = .ok (.aload_n 0, 1) := by decide +kernel
theorem d_MessageCoderModel_receives_1 : decode prog_14_method_52_code 1 = .ok (.getfield 9, 3) := by decide +kernel
theorem d_MessageCoderModel_receives_4 : decode prog_14_method_52_code 4 = .ok (.bipush 7, 2) := by decide +kernel
theorem d_MessageCoderModel_receives_6 : decode prog_14_method_52_code 6 = .ok (.iaload, 1) := by decide +kernel
theorem d_MessageCoderModel_receives_7 : decode prog_14_method_52_code 7 = .ok (.ifCond .ne 5, 3) := by decide +kernel
theorem d_MessageCoderModel_receives_10 : decode prog_14_method_52_code 10 = .ok (.iconst 3, 1) := by decide +kernel
theorem d_MessageCoderModel_receives_11 : decode prog_14_method_52_code 11 = .ok (.ireturn, 1) := by decide +kernel
theorem d_MessageCoderModel_receives_12 : decode prog_14_method_52_code 12 = .ok (.aload_n 0, 1) := by decide +kernel
theorem d_MessageCoderModel_receives_13 : decode prog_14_method_52_code 13 = .ok (.aload_n 0, 1) := by decide +kernel
theorem d_MessageCoderModel_receives_14 : decode prog_14_method_52_code 14 = .ok (.invokevirtual 182, 3) := by decide +kernel
theorem d_MessageCoderModel_receives_17 : decode prog_14_method_52_code 17 = .ok (.putfield 61, 3) := by decide +kernel
theorem d_MessageCoderModel_receives_20 : decode prog_14_method_52_code 20 = .ok (.aload_n 0, 1) := by decide +kernel
theorem d_MessageCoderModel_receives_21 : decode prog_14_method_52_code 21 = .ok (.getfield 9, 3) := by decide +kernel
theorem d_MessageCoderModel_receives_24 : decode prog_14_method_52_code 24 = .ok (.bipush 6, 2) := by decide +kernel
theorem d_MessageCoderModel_receives_26 : decode prog_14_method_52_code 26 = .ok (.dup2, 1) := by decide +kernel
theorem d_MessageCoderModel_receives_27 : decode prog_14_method_52_code 27 = .ok (.iaload, 1) := by decide +kernel
theorem d_MessageCoderModel_receives_28 : decode prog_14_method_52_code 28 = .ok (.aload_n 0, 1) := by decide +kernel
theorem d_MessageCoderModel_receives_29 : decode prog_14_method_52_code 29 = .ok (.invokevirtual 188, 3) := by decide +kernel
theorem d_MessageCoderModel_receives_32 : decode prog_14_method_52_code 32 = .ok (.ifCond .eq 7, 3) := by decide +kernel
theorem d_MessageCoderModel_receives_35 : decode prog_14_method_52_code 35 = .ok (.iconst 0, 1) := by decide +kernel
theorem d_MessageCoderModel_receives_36 : decode prog_14_method_52_code 36 = .ok (.goto 4, 3) := by decide +kernel
theorem d_MessageCoderModel_receives_39 : decode prog_14_method_52_code 39 = .ok (.iconst 1, 1) := by decide +kernel
theorem d_MessageCoderModel_receives_40 : decode prog_14_method_52_code 40 = .ok (.iadd, 1) := by decide +kernel
theorem d_MessageCoderModel_receives_41 : decode prog_14_method_52_code 41 = .ok (.iastore, 1) := by decide +kernel
theorem d_MessageCoderModel_receives_42 : decode prog_14_method_52_code 42 = .ok (.aload_n 0, 1) := by decide +kernel
theorem d_MessageCoderModel_receives_43 : decode prog_14_method_52_code 43 = .ok (.getfield 9, 3) := by decide +kernel
theorem d_MessageCoderModel_receives_46 : decode prog_14_method_52_code 46 = .ok (.iconst 4, 1) := by decide +kernel
theorem d_MessageCoderModel_receives_47 : decode prog_14_method_52_code 47 = .ok (.dup2, 1) := by decide +kernel
theorem d_MessageCoderModel_receives_48 : decode prog_14_method_52_code 48 = .ok (.iaload, 1) := by decide +kernel
theorem d_MessageCoderModel_receives_49 : decode prog_14_method_52_code 49 = .ok (.iconst 1, 1) := by decide +kernel
theorem d_MessageCoderModel_receives_50 : decode prog_14_method_52_code 50 = .ok (.iadd, 1) := by decide +kernel
theorem d_MessageCoderModel_receives_51 : decode prog_14_method_52_code 51 = .ok (.iastore, 1) := by decide +kernel
theorem d_MessageCoderModel_receives_52 : decode prog_14_method_52_code 52 = .ok (.aload_n 0, 1) := by decide +kernel
theorem d_MessageCoderModel_receives_53 : decode prog_14_method_52_code 53 = .ok (.getfield 9, 3) := by decide +kernel
theorem d_MessageCoderModel_receives_56 : decode prog_14_method_52_code 56 = .ok (.iconst 5, 1) := by decide +kernel
theorem d_MessageCoderModel_receives_57 : decode prog_14_method_52_code 57 = .ok (.dup2, 1) := by decide +kernel
theorem d_MessageCoderModel_receives_58 : decode prog_14_method_52_code 58 = .ok (.iaload, 1) := by decide +kernel
theorem d_MessageCoderModel_receives_59 : decode prog_14_method_52_code 59 = .ok (.aload_n 0, 1) := by decide +kernel
theorem d_MessageCoderModel_receives_60 : decode prog_14_method_52_code 60 = .ok (.getfield 61, 3) := by decide +kernel
theorem d_MessageCoderModel_receives_63 : decode prog_14_method_52_code 63 = .ok (.iadd, 1) := by decide +kernel
theorem d_MessageCoderModel_receives_64 : decode prog_14_method_52_code 64 = .ok (.iastore, 1) := by decide +kernel
theorem d_MessageCoderModel_receives_65 : decode prog_14_method_52_code 65 = .ok (.aload_n 0, 1) := by decide +kernel
theorem d_MessageCoderModel_receives_66 : decode prog_14_method_52_code 66 = .ok (.getfield 9, 3) := by decide +kernel
theorem d_MessageCoderModel_receives_69 : decode prog_14_method_52_code 69 = .ok (.bipush 9, 2) := by decide +kernel
theorem d_MessageCoderModel_receives_71 : decode prog_14_method_52_code 71 = .ok (.aload_n 0, 1) := by decide +kernel
theorem d_MessageCoderModel_receives_72 : decode prog_14_method_52_code 72 = .ok (.getfield 106, 3) := by decide +kernel
theorem d_MessageCoderModel_receives_75 : decode prog_14_method_52_code 75 = .ok (.iastore, 1) := by decide +kernel
theorem d_MessageCoderModel_receives_76 : decode prog_14_method_52_code 76 = .ok (.iconst 0, 1) := by decide +kernel
theorem d_MessageCoderModel_receives_77 : decode prog_14_method_52_code 77 = .ok (.istore_n 1, 1) := by decide +kernel
theorem d_MessageCoderModel_receives_78 : decode prog_14_method_52_code 78 = .ok (.iload_n 1, 1) := by decide +kernel
theorem d_MessageCoderModel_receives_79 : decode prog_14_method_52_code 79 = .ok (.bipush 16, 2) := by decide +kernel
theorem d_MessageCoderModel_receives_81 : decode prog_14_method_52_code 81 = .ok (.if_icmp .ge 37, 3) := by decide +kernel
theorem d_MessageCoderModel_receives_84 : decode prog_14_method_52_code 84 = .ok (.aload_n 0, 1) := by decide +kernel
theorem d_MessageCoderModel_receives_85 : decode prog_14_method_52_code 85 = .ok (.getfield 9, 3) := by decide +kernel
theorem d_MessageCoderModel_receives_88 : decode prog_14_method_52_code 88 = .ok (.sipush 218, 3) := by decide +kernel
theorem d_MessageCoderModel_receives_91 : decode prog_14_method_52_code 91 = .ok (.iload_n 1, 1) := by decide +kernel
theorem d_MessageCoderModel_receives_92 : decode prog_14_method_52_code 92 = .ok (.iadd, 1) := by decide +kernel
theorem d_MessageCoderModel_receives_93 : decode prog_14_method_52_code 93 = .ok (.iload_n 1, 1) := by decide +kernel
theorem d_MessageCoderModel_receives_94 : decode prog_14_method_52_code 94 = .ok (.aload_n 0, 1) := by decide +kernel
theorem d_MessageCoderModel_receives_95 : decode prog_14_method_52_code 95 = .ok (.getfield 106, 3) := by decide +kernel
theorem d_MessageCoderModel_receives_98 : decode prog_14_method_52_code 98 = .ok (.if_icmp .ge 12, 3) := by decide +kernel
theorem d_MessageCoderModel_receives_101 : decode prog_14_method_52_code 101 = .ok (.aload_n 0, 1) := by decide +kernel
theorem d_MessageCoderModel_receives_102 : decode prog_14_method_52_code 102 = .ok (.getfield 28, 3) := by decide +kernel
theorem d_MessageCoderModel_receives_105 : decode prog_14_method_52_code 105 = .ok (.iload_n 1, 1) := by decide +kernel
theorem d_MessageCoderModel_receives_106 : decode prog_14_method_52_code 106 = .ok (.iaload, 1) := by decide +kernel
theorem d_MessageCoderModel_receives_107 : decode prog_14_method_52_code 107 = .ok (.goto 4, 3) := by decide +kernel
theorem d_MessageCoderModel_receives_110 : decode prog_14_method_52_code 110 = .ok (.iconst 0, 1) := by decide +kernel
theorem d_MessageCoderModel_receives_111 : decode prog_14_method_52_code 111 = .ok (.iastore, 1) := by decide +kernel
theorem d_MessageCoderModel_receives_112 : decode prog_14_method_52_code 112 = .ok (.iinc 1 1, 3) := by decide +kernel
theorem d_MessageCoderModel_receives_115 : decode prog_14_method_52_code 115 = .ok (.goto (-37), 3) := by decide +kernel
theorem d_MessageCoderModel_receives_118 : decode prog_14_method_52_code 118 = .ok (.aload_n 0, 1) := by decide +kernel
theorem d_MessageCoderModel_receives_119 : decode prog_14_method_52_code 119 = .ok (.invokevirtual 173, 3) := by decide +kernel
theorem d_MessageCoderModel_receives_122 : decode prog_14_method_52_code 122 = .ok (.iconst 0, 1) := by decide +kernel
theorem d_MessageCoderModel_receives_123 : decode prog_14_method_52_code 123 = .ok (.ireturn, 1) := by decide +kernel
set_option maxHeartbeats 4000000 in
set_option maxRecDepth 20000 in
theorem c_MessageCoderModel_receives {P : xP} {F : xF} {z : Nat} {m : Nat} {th : Nat} {ch : Nat} {sv : Nat} {rs : Int32} {bm : Nat} {dm : Nat} {lz : Nat} {ty : Nat} {he : Nat} {er : Int32} {ea : Int32} {fa : Int32} {cn : Nat} {g : Nat → Nat} {A : aS} {d0 : Nat → Nat} (o0 : F (m) = some (.inl (10, [.int (nI (th)), .ref (m + 1), .int (nI (ch)), .int (nI (sv)), .int rs, .ref (m + 2), .ref (m + 3), .ref (m + 4), .ref (m + 5), .ref (m + 6), .int (nI (bm)), .ref (m + 7), .int (nI (dm)), .ref (m + 8), .ref (m + 9), .int (nI (lz)), .ref (m + 10), .int (nI (ty)), .int (nI (he)), .int er, .int ea, .int fa, .ref (m + 11), .int (nI (cn))]))) (ga : F (m + 1) = some (.inr (0, 4730, fun b9 => .int (nI (g b9))))) (h7 : F (m + 7) = some (.inr (0, 16, fun b9 => .int (nI (d0 b9))))) (hr : rRow g A) (hA : aInv A) : xM P xy_MessageCoderModel_receives [.ref m] F (z) 0 0 (fun r9 F9 z9 => ∃ g1 : Nat → Nat, ∃ rs1 : Int32, ∃ dm1 : Nat, ∃ d1 : Nat → Nat, r9 = some (.int (nI (codN (aRe A).1))) ∧ z9 = z ∧ F9 (m) = some (.inl (10, [.int (nI (th)), .ref (m + 1), .int (nI (ch)), .int (nI (sv)), .int rs1, .ref (m + 2), .ref (m + 3), .ref (m + 4), .ref (m + 5), .ref (m + 6), .int (nI (bm)), .ref (m + 7), .int (nI (dm1)), .ref (m + 8), .ref (m + 9), .int (nI (lz)), .ref (m + 10), .int (nI (ty)), .int (nI (he)), .int er, .int ea, .int fa, .ref (m + 11), .int (nI (cn))])) ∧ F9 (m + 1) = some (.inr (0, 4730, fun b9 => .int (nI (g1 b9)))) ∧ F9 (m + 7) = some (.inr (0, 16, fun b9 => .int (nI (d1 b9)))) ∧ (rRow g1 (aRe A).2) ∧ (∀ q, 430 ≤ q → g1 q = g q) ∧ (codN (aRe A).1 = 0 → rs1 = (aRe A).1) ∧ (∀ a9 : Nat, (a9 < m ∨ m + 2 ≤ a9) → (a9 < m + 7 ∨ m + 7 + 1 ≤ a9) → F9 a9 = F a9)) := by
  refine xM_i .int rfl (Nat.le_of_ble_eq_true rfl) (L0 := [some (.ref m), none]) rfl rfl fun Θ hC hret => ?_
  have hag : ∀ a9 : Nat, (a9 < m ∨ m + 2 ≤ a9) → (a9 < m + 7 ∨ m + 7 + 1 ≤ a9) → F a9 = F a9 := fun a9 _ _ => rfl
  obtain ⟨⟨q0, q1, q2, q3, q4, q5, q6, q7, q9⟩, qw, qd, qm, qf, qx, qb⟩ := id hr
  obtain ⟨⟨u1, u2, u3, u4, u5⟩, uw, ud, um, uo, ut, ux, ub, un9⟩ := id hA
  refine x_aload_n hC d_MessageCoderModel_receives_0 rfl rfl ?_
  refine x_getf hC kf_MessageCoderModel_9 o0 rfl d_MessageCoderModel_receives_1 ?_
  refine x_bipush hC d_MessageCoderModel_receives_4 (v := nI 7) (by decide) ?_
  refine x_iald hC ga (j := 7) ⟨rfl, by omega, by omega⟩ (x := nI (A.2.2.2.1.1 * 7)) (congrArg nI q7) d_MessageCoderModel_receives_6 ?_
  refine x_ifN_ne hC d_MessageCoderModel_receives_7 (tgt := 12) (by decide) (by omega) (fun c_7 => ?_) (fun c_7 => ?_)
  · skip
    have hfk : 0 < A.2.2.2.1.1 := by omega
    have hdm : dmgN A.2.2.2.1.2.1 A.2.2.2.1.1 ≤ A.2.2.2.1.1 := dmgN_le _ _
    have hdn : (decA A).2.2.1 ≤ A.2.2.2.1.2.2.1 := decS_le _ _ _ _ _
    refine x_aload_n hC d_MessageCoderModel_receives_12 rfl rfl ?_
    refine x_aload_n hC d_MessageCoderModel_receives_13 rfl rfl ?_
    refine x_callV hC kv_MessageCoderModel_182 (c_MessageCoderModel_damaged (o0 := o0) (ga := ga) (hr := hr) (hA := hA)) o0 rfl rfl (by decide) rfl rfl rfl (Nat.le_of_ble_eq_true rfl) (by decide) d_MessageCoderModel_receives_14 (fun r9 F9 z9 hp9 => ?_)
    obtain ⟨rfl, h9b, h9c⟩ := hp9
    rw [h9b, h9c]
    clear h9b h9c F9 z9
    refine x_putf hC kf_MessageCoderModel_61 o0 (Nat.le_of_ble_eq_true rfl) rfl rfl d_MessageCoderModel_receives_17 (fs1 := [.int (nI (th)), .ref (m + 1), .int (nI (ch)), .int (nI (sv)), .int (nI (dmgN A.2.2.2.1.2.1 A.2.2.2.1.1)), .ref (m + 2), .ref (m + 3), .ref (m + 4), .ref (m + 5), .ref (m + 6), .int (nI (bm)), .ref (m + 7), .int (nI (dm)), .ref (m + 8), .ref (m + 9), .int (nI (lz)), .ref (m + 10), .int (nI (ty)), .int (nI (he)), .int er, .int ea, .int fa, .ref (m + 11), .int (nI (cn))]) rfl ?_
    generalize e1 : xup F (m) (.inl (10, [.int (nI (th)), .ref (m + 1), .int (nI (ch)), .int (nI (sv)), .int (nI (dmgN A.2.2.2.1.2.1 A.2.2.2.1.1)), .ref (m + 2), .ref (m + 3), .ref (m + 4), .ref (m + 5), .ref (m + 6), .int (nI (bm)), .ref (m + 7), .int (nI (dm)), .ref (m + 8), .ref (m + 9), .int (nI (lz)), .ref (m + 10), .int (nI (ty)), .int (nI (he)), .int er, .int ea, .int fa, .ref (m + 11), .int (nI (cn))])) = F1
    have o0 : F1 (m) = some (.inl (10, [.int (nI (th)), .ref (m + 1), .int (nI (ch)), .int (nI (sv)), .int (nI (dmgN A.2.2.2.1.2.1 A.2.2.2.1.1)), .ref (m + 2), .ref (m + 3), .ref (m + 4), .ref (m + 5), .ref (m + 6), .int (nI (bm)), .ref (m + 7), .int (nI (dm)), .ref (m + 8), .ref (m + 9), .int (nI (lz)), .ref (m + 10), .int (nI (ty)), .int (nI (he)), .int er, .int ea, .int fa, .ref (m + 11), .int (nI (cn))])) := by rw [← e1]; exact xup_eq
    have ga : F1 (m + 1) = some (.inr (0, 4730, fun b9 => .int (nI (g b9)))) := by rw [← e1]; exact (xup_ne (by omega)).trans ga
    have h7 : F1 (m + 7) = some (.inr (0, 16, fun b9 => .int (nI (d0 b9)))) := by rw [← e1]; exact (xup_ne (by omega)).trans h7
    have hag : ∀ a9 : Nat, (a9 < m ∨ m + 2 ≤ a9) → (a9 < m + 7 ∨ m + 7 + 1 ≤ a9) → F1 a9 = F a9 := fun a9 q0 q1 => by rw [← e1]; exact (xup_ne (by omega)).trans (hag a9 q0 q1)
    refine x_aload_n hC d_MessageCoderModel_receives_20 rfl rfl ?_
    refine x_getf hC kf_MessageCoderModel_9 o0 rfl d_MessageCoderModel_receives_21 ?_
    refine x_bipush hC d_MessageCoderModel_receives_24 (v := nI 6) (by decide) ?_
    refine x_dup2 hC d_MessageCoderModel_receives_26 rfl rfl ?_
    refine x_iald hC ga (j := 6) ⟨rfl, by omega, by omega⟩ (x := nI (A.2.2.2.2.2.2.2.2)) (congrArg nI q6) d_MessageCoderModel_receives_27 ?_
    refine x_aload_n hC d_MessageCoderModel_receives_28 rfl rfl ?_
    refine x_callV hC kv_MessageCoderModel_188 (c_MessageCoderModel_isSame (o0 := o0) (ga := ga) (h7 := h7) (hr := hr) (hA := hA) (hfk := hfk)) o0 rfl rfl (by decide) rfl rfl rfl (Nat.le_of_ble_eq_true rfl) (by decide) d_MessageCoderModel_receives_29 (fun r9 F9 z9 hp9 => ?_)
    obtain ⟨d1_29, rfl, h9c, j0, j1, j2, pk_29, hag9⟩ := hp9
    rw [h9c]
    clear h9c z9
    generalize F9 = F2 at *
    have o0 : F2 (m) = some (.inl (10, [.int (nI (th)), .ref (m + 1), .int (nI (ch)), .int (nI (sv)), .int ((nI (dmgN A.2.2.2.1.2.1 A.2.2.2.1.1))), .ref (m + 2), .ref (m + 3), .ref (m + 4), .ref (m + 5), .ref (m + 6), .int (nI (bm)), .ref (m + 7), .int (nI ((decA A).2.2.1)), .ref (m + 8), .ref (m + 9), .int (nI (lz)), .ref (m + 10), .int (nI (ty)), .int (nI (he)), .int er, .int ea, .int fa, .ref (m + 11), .int (nI (cn))])) := j0
    have ga : F2 (m + 1) = some (.inr (0, 4730, fun b9 => .int (nI (g b9)))) := j1
    have h7 : F2 (m + 7) = some (.inr (0, 16, fun b9 => .int (nI (d1_29 b9)))) := j2
    have hag : ∀ a9 : Nat, (a9 < m ∨ m + 2 ≤ a9) → (a9 < m + 7 ∨ m + 7 + 1 ≤ a9) → F2 a9 = F a9 := fun a9 q0 q1 => (hag9 a9 (by omega) (by omega)).trans (hag a9 q0 q1)
    have hg_29 := hag9
    clear hag9
    refine x_ifB_eq hC d_MessageCoderModel_receives_32 (tgt := 39) (by decide) (fun c_32 => ?_) (fun c_32 => ?_)
    · skip
      refine x_iconst hC d_MessageCoderModel_receives_39 (v := nI 1) (by decide) ?_
      refine x_iadd hC d_MessageCoderModel_receives_40 (v := (nI (A.2.2.2.2.2.2.2.2 + 1))) (x_addN (by omega)) ?_
      refine x_iast hC ga (j := 6) ⟨rfl, by omega, by omega⟩ d_MessageCoderModel_receives_41 (g1 := fun b9 => nI (updN g (6) (A.2.2.2.2.2.2.2.2 + 1) b9)) (x_updN _ _ _) ?_
      generalize ega1 : updN g (6) (A.2.2.2.2.2.2.2.2 + 1) = ga1
      generalize e4 : xup F2 (m + 1) (.inr (0, 4730, fun b9 => .int (nI (ga1 b9)))) = F4
      have o0 : F4 (m) = some (.inl (10, [.int (nI (th)), .ref (m + 1), .int (nI (ch)), .int (nI (sv)), .int ((nI (dmgN A.2.2.2.1.2.1 A.2.2.2.1.1))), .ref (m + 2), .ref (m + 3), .ref (m + 4), .ref (m + 5), .ref (m + 6), .int (nI (bm)), .ref (m + 7), .int (nI ((decA A).2.2.1)), .ref (m + 8), .ref (m + 9), .int (nI (lz)), .ref (m + 10), .int (nI (ty)), .int (nI (he)), .int er, .int ea, .int fa, .ref (m + 11), .int (nI (cn))])) := by rw [← e4]; exact (xup_ne (by omega)).trans o0
      have ga : F4 (m + 1) = some (.inr (0, 4730, fun b9 => .int (nI (ga1 b9)))) := by rw [← e4]; exact xup_eq
      have h7 : F4 (m + 7) = some (.inr (0, 16, fun b9 => .int (nI (d1_29 b9)))) := by rw [← e4]; exact (xup_ne (by omega)).trans h7
      have hag : ∀ a9 : Nat, (a9 < m ∨ m + 2 ≤ a9) → (a9 < m + 7 ∨ m + 7 + 1 ≤ a9) → F4 a9 = F a9 := fun a9 q0 q1 => by rw [← e4]; exact (xup_ne (by omega)).trans (hag a9 q0 q1)
      refine x_aload_n hC d_MessageCoderModel_receives_42 rfl rfl ?_
      refine x_getf hC kf_MessageCoderModel_9 o0 rfl d_MessageCoderModel_receives_43 ?_
      refine x_iconst hC d_MessageCoderModel_receives_46 (v := nI 4) (by decide) ?_
      refine x_dup2 hC d_MessageCoderModel_receives_47 rfl rfl ?_
      refine x_iald hC ga (j := 4) ⟨rfl, by omega, by omega⟩ (x := nI (A.2.2.2.2.2.2.1)) (congrArg nI (by rw [← ega1, updN_ne (by omega)]; exact q4)) d_MessageCoderModel_receives_48 ?_
      refine x_iconst hC d_MessageCoderModel_receives_49 (v := nI 1) (by decide) ?_
      refine x_iadd hC d_MessageCoderModel_receives_50 (v := (nI (A.2.2.2.2.2.2.1 + 1))) (x_addN (by omega)) ?_
      refine x_iast hC ga (j := 4) ⟨rfl, by omega, by omega⟩ d_MessageCoderModel_receives_51 (g1 := fun b9 => nI (updN ga1 (4) (A.2.2.2.2.2.2.1 + 1) b9)) (x_updN _ _ _) ?_
      generalize ega2 : updN ga1 (4) (A.2.2.2.2.2.2.1 + 1) = ga2
      generalize e6 : xup F4 (m + 1) (.inr (0, 4730, fun b9 => .int (nI (ga2 b9)))) = F6
      have o0 : F6 (m) = some (.inl (10, [.int (nI (th)), .ref (m + 1), .int (nI (ch)), .int (nI (sv)), .int ((nI (dmgN A.2.2.2.1.2.1 A.2.2.2.1.1))), .ref (m + 2), .ref (m + 3), .ref (m + 4), .ref (m + 5), .ref (m + 6), .int (nI (bm)), .ref (m + 7), .int (nI ((decA A).2.2.1)), .ref (m + 8), .ref (m + 9), .int (nI (lz)), .ref (m + 10), .int (nI (ty)), .int (nI (he)), .int er, .int ea, .int fa, .ref (m + 11), .int (nI (cn))])) := by rw [← e6]; exact (xup_ne (by omega)).trans o0
      have ga : F6 (m + 1) = some (.inr (0, 4730, fun b9 => .int (nI (ga2 b9)))) := by rw [← e6]; exact xup_eq
      have h7 : F6 (m + 7) = some (.inr (0, 16, fun b9 => .int (nI (d1_29 b9)))) := by rw [← e6]; exact (xup_ne (by omega)).trans h7
      have hag : ∀ a9 : Nat, (a9 < m ∨ m + 2 ≤ a9) → (a9 < m + 7 ∨ m + 7 + 1 ≤ a9) → F6 a9 = F a9 := fun a9 q0 q1 => by rw [← e6]; exact (xup_ne (by omega)).trans (hag a9 q0 q1)
      refine x_aload_n hC d_MessageCoderModel_receives_52 rfl rfl ?_
      refine x_getf hC kf_MessageCoderModel_9 o0 rfl d_MessageCoderModel_receives_53 ?_
      refine x_iconst hC d_MessageCoderModel_receives_56 (v := nI 5) (by decide) ?_
      refine x_dup2 hC d_MessageCoderModel_receives_57 rfl rfl ?_
      refine x_iald hC ga (j := 5) ⟨rfl, by omega, by omega⟩ (x := nI (A.2.2.2.2.2.2.2.1)) (congrArg nI (by rw [← ega2, updN_ne (by omega), ← ega1, updN_ne (by omega)]; exact q5)) d_MessageCoderModel_receives_58 ?_
      refine x_aload_n hC d_MessageCoderModel_receives_59 rfl rfl ?_
      refine x_getf hC kf_MessageCoderModel_61 o0 rfl d_MessageCoderModel_receives_60 ?_
      refine x_top (v := (nI (dmgN A.2.2.2.1.2.1 A.2.2.2.1.1))) rfl ?_
      refine x_iadd hC d_MessageCoderModel_receives_63 (v := (nI ((A.2.2.2.2.2.2.2.1) + (dmgN A.2.2.2.1.2.1 A.2.2.2.1.1)))) (x_addN (by omega)) ?_
      refine x_iast hC ga (j := 5) ⟨rfl, by omega, by omega⟩ d_MessageCoderModel_receives_64 (g1 := fun b9 => nI (updN ga2 (5) ((A.2.2.2.2.2.2.2.1) + (dmgN A.2.2.2.1.2.1 A.2.2.2.1.1)) b9)) (x_updN _ _ _) ?_
      generalize ega3 : updN ga2 (5) ((A.2.2.2.2.2.2.2.1) + (dmgN A.2.2.2.1.2.1 A.2.2.2.1.1)) = ga3
      generalize e8 : xup F6 (m + 1) (.inr (0, 4730, fun b9 => .int (nI (ga3 b9)))) = F8
      have o0 : F8 (m) = some (.inl (10, [.int (nI (th)), .ref (m + 1), .int (nI (ch)), .int (nI (sv)), .int ((nI (dmgN A.2.2.2.1.2.1 A.2.2.2.1.1))), .ref (m + 2), .ref (m + 3), .ref (m + 4), .ref (m + 5), .ref (m + 6), .int (nI (bm)), .ref (m + 7), .int (nI ((decA A).2.2.1)), .ref (m + 8), .ref (m + 9), .int (nI (lz)), .ref (m + 10), .int (nI (ty)), .int (nI (he)), .int er, .int ea, .int fa, .ref (m + 11), .int (nI (cn))])) := by rw [← e8]; exact (xup_ne (by omega)).trans o0
      have ga : F8 (m + 1) = some (.inr (0, 4730, fun b9 => .int (nI (ga3 b9)))) := by rw [← e8]; exact xup_eq
      have h7 : F8 (m + 7) = some (.inr (0, 16, fun b9 => .int (nI (d1_29 b9)))) := by rw [← e8]; exact (xup_ne (by omega)).trans h7
      have hag : ∀ a9 : Nat, (a9 < m ∨ m + 2 ≤ a9) → (a9 < m + 7 ∨ m + 7 + 1 ≤ a9) → F8 a9 = F a9 := fun a9 q0 q1 => by rw [← e8]; exact (xup_ne (by omega)).trans (hag a9 q0 q1)
      refine x_aload_n hC d_MessageCoderModel_receives_65 rfl rfl ?_
      refine x_getf hC kf_MessageCoderModel_9 o0 rfl d_MessageCoderModel_receives_66 ?_
      refine x_bipush hC d_MessageCoderModel_receives_69 (v := nI 9) (by decide) ?_
      refine x_aload_n hC d_MessageCoderModel_receives_71 rfl rfl ?_
      refine x_getf hC kf_MessageCoderModel_106 o0 rfl d_MessageCoderModel_receives_72 ?_
      refine x_iast hC ga (j := 9) ⟨rfl, by omega, by omega⟩ d_MessageCoderModel_receives_75 (g1 := fun b9 => nI (updN ga3 (9) ((decA A).2.2.1) b9)) (x_updN _ _ _) ?_
      generalize ega4 : updN ga3 (9) ((decA A).2.2.1) = ga4
      generalize e10 : xup F8 (m + 1) (.inr (0, 4730, fun b9 => .int (nI (ga4 b9)))) = F10
      have o0 : F10 (m) = some (.inl (10, [.int (nI (th)), .ref (m + 1), .int (nI (ch)), .int (nI (sv)), .int ((nI (dmgN A.2.2.2.1.2.1 A.2.2.2.1.1))), .ref (m + 2), .ref (m + 3), .ref (m + 4), .ref (m + 5), .ref (m + 6), .int (nI (bm)), .ref (m + 7), .int (nI ((decA A).2.2.1)), .ref (m + 8), .ref (m + 9), .int (nI (lz)), .ref (m + 10), .int (nI (ty)), .int (nI (he)), .int er, .int ea, .int fa, .ref (m + 11), .int (nI (cn))])) := by rw [← e10]; exact (xup_ne (by omega)).trans o0
      have ga : F10 (m + 1) = some (.inr (0, 4730, fun b9 => .int (nI (ga4 b9)))) := by rw [← e10]; exact xup_eq
      have h7 : F10 (m + 7) = some (.inr (0, 16, fun b9 => .int (nI (d1_29 b9)))) := by rw [← e10]; exact (xup_ne (by omega)).trans h7
      have hag : ∀ a9 : Nat, (a9 < m ∨ m + 2 ≤ a9) → (a9 < m + 7 ∨ m + 7 + 1 ≤ a9) → F10 a9 = F a9 := fun a9 q0 q1 => by rw [← e10]; exact (xup_ne (by omega)).trans (hag a9 q0 q1)
      refine x_iconst hC d_MessageCoderModel_receives_76 (v := nI 0) (by decide) ?_
      refine x_istore_n hC d_MessageCoderModel_receives_77 rfl (Nat.le_of_ble_eq_true rfl) (L1 := [some (.ref m), some (.int (nI 0))]) rfl ?_
      have loop_78 : ∀ (m9 : Nat) (Fh78 : xF) (i : Nat) (p1 : Nat → Nat), (Fh78 (m) = some (.inl (10, [.int (nI (th)), .ref (m + 1), .int (nI (ch)), .int (nI (sv)), .int (nI (dmgN A.2.2.2.1.2.1 A.2.2.2.1.1)), .ref (m + 2), .ref (m + 3), .ref (m + 4), .ref (m + 5), .ref (m + 6), .int (nI (bm)), .ref (m + 7), .int (nI ((decA A).2.2.1)), .ref (m + 8), .ref (m + 9), .int (nI (lz)), .ref (m + 10), .int (nI (ty)), .int (nI (he)), .int er, .int ea, .int fa, .ref (m + 11), .int (nI (cn))]))) → (Fh78 (m + 1) = some (.inr (0, 4730, fun b9 => .int (nI (p1 b9))))) → (Fh78 (m + 7) = some (.inr (0, 16, fun b9 => .int (nI (d1_29 b9))))) → (∀ a9 : Nat, (a9 < m ∨ m + 2 ≤ a9) → (a9 < m + 7 ∨ m + 7 + 1 ≤ a9) → Fh78 a9 = F a9) → (i ≤ 16) → (∀ q, ¬ (218 ≤ q ∧ q < 218 + i) → p1 q = ga4 q) → (∀ j, j < i → j < (decA A).2.2.1 → p1 (218 + j) + 97 = (decA A).2.2.2 j) → (16 - i < m9) → xX P Θ 78 [some (.ref m), some (.int (nI (i)))] [] Fh78 (z) 0 0 := by
        intro m9
        induction m9 with
        | zero => intros; omega
        | succ m9 ih_78 =>
          intro Fh78 i p1 o0 ga h7 hag hi ko1 kx hm_78
          refine x_iload_n hC d_MessageCoderModel_receives_78 rfl rfl ?_
          refine x_bipush hC d_MessageCoderModel_receives_79 (v := nI 16) (by decide) ?_
          refine x_icmpN_ge hC d_MessageCoderModel_receives_81 (tgt := 118) (by decide) (by omega) (by omega) (fun c_81 => ?_) (fun c_81 => ?_)
          · skip
            refine x_aload_n hC d_MessageCoderModel_receives_118 rfl rfl ?_
            refine x_callV hC kv_MessageCoderModel_173 (c_MessageCoderModel_clearsFrame (o0 := o0) (ga := ga)) o0 rfl rfl (by decide) rfl rfl rfl (Nat.le_of_ble_eq_true rfl) (by decide) d_MessageCoderModel_receives_119 (fun r9 F9 z9 hp9 => ?_)
            obtain ⟨rfl, h9c, j0, j1, hag9⟩ := hp9
            rw [h9c]
            clear h9c z9
            generalize F9 = F11 at *
            have h7 : F11 (m + 7) = some (.inr (0, 16, fun b9 => .int (nI (d1_29 b9)))) := (hag9 _ (by omega)).trans h7
            have o0 : F11 (m) = some (.inl (10, [.int (nI (th)), .ref (m + 1), .int (nI (ch)), .int (nI (sv)), .int ((nI (dmgN A.2.2.2.1.2.1 A.2.2.2.1.1))), .ref (m + 2), .ref (m + 3), .ref (m + 4), .ref (m + 5), .ref (m + 6), .int (nI (bm)), .ref (m + 7), .int (nI (((decA A).2.2.1))), .ref (m + 8), .ref (m + 9), .int (nI (lz)), .ref (m + 10), .int (nI (ty)), .int (nI (he)), .int er, .int ea, .int fa, .ref (m + 11), .int (nI (cn))])) := j0
            have ga : F11 (m + 1) = some (.inr (0, 4730, fun b9 => .int (nI ((cfG p1) b9)))) := j1
            have hag : ∀ a9 : Nat, (a9 < m ∨ m + 2 ≤ a9) → (a9 < m + 7 ∨ m + 7 + 1 ≤ a9) → F11 a9 = F a9 := fun a9 q0 q1 => (hag9 a9 (by omega)).trans (hag a9 q0 q1)
            have hg_119 := hag9
            clear hag9
            refine x_iconst hC d_MessageCoderModel_receives_122 (v := nI 0) (by decide) ?_
            refine hret _ _ _ _ _ _ _ d_MessageCoderModel_receives_123 (by decide) (by decide) rfl ?_
            have hf : ∀ q, ¬ (4 ≤ q ∧ q < 10) ∧ (q < 186 ∨ 430 ≤ q) → cfG p1 q = g q := fun q hq => by rw [cfG_o (by omega), ko1 q (by omega), ← ega4, updN_ne (by omega), ← ega3, updN_ne (by omega), ← ega2, updN_ne (by omega), ← ega1, updN_ne (by omega)]
            have kr : rRow (cfG p1) (A.1, A.2.1, A.2.2.1, (0, A.2.2.2.1.2), ((decA A).2.2.1, (decA A).2.2.2), A.2.2.2.2.2.1, A.2.2.2.2.2.2.1 + 1, A.2.2.2.2.2.2.2.1 + dmgN A.2.2.2.1.2.1 A.2.2.2.1.1, if sameA A then A.2.2.2.2.2.2.2.2 else A.2.2.2.2.2.2.2.2 + 1) := ⟨⟨(hf 0 (by omega)).trans q0, (hf 1 (by omega)).trans q1, (hf 2 (by omega)).trans q2, (hf 3 (by omega)).trans q3, by rw [cfG_o (by omega), ko1 4 (by omega), ← ega4, updN_ne (by omega), ← ega3, updN_ne (by omega), ← ega2]; exact updN_eq, by rw [cfG_o (by omega), ko1 5 (by omega), ← ega4, updN_ne (by omega), ← ega3]; exact updN_eq, by rw [cfG_o (by omega), ko1 6 (by omega), ← ega4, updN_ne (by omega), ← ega3, updN_ne (by omega), ← ega2, updN_ne (by omega), ← ega1, updN_eq]; exact (if_neg c_32).symm, cfG_7 _, by rw [cfG_o (by omega), ko1 9 (by omega), ← ega4]; exact updN_eq⟩, fun j (hj : j < 8) => (hf _ (by omega)).trans (qw j hj), fun j (hj : j < A.2.1.1) => by rw [hf _ (by omega)]; exact qd j hj, fun i (hi : i < A.2.2.1.1) => rMsg_ext (um i hi).2.2.1 (fun q hq => hf _ (by omega)) (qm i hi), fun hk9 => absurd hk9 (Nat.lt_irrefl 0), fun j (hj : j < (decA A).2.2.1) => by rw [cfG_o (by omega)]; exact kx j (by omega) hj, fun b hb => absurd hb (Nat.not_lt_zero b)⟩
            have ko : ∀ q, 430 ≤ q → cfG p1 q = g q := fun q hq => hf q (by omega)
            have e9 : aRe A = (nI (dmgN A.2.2.2.1.2.1 A.2.2.2.1.1), (A.1, A.2.1, A.2.2.1, (0, A.2.2.2.1.2), ((decA A).2.2.1, (decA A).2.2.2), A.2.2.2.2.2.1, A.2.2.2.2.2.2.1 + 1, A.2.2.2.2.2.2.2.1 + dmgN A.2.2.2.1.2.1 A.2.2.2.1.1, if sameA A then A.2.2.2.2.2.2.2.2 else A.2.2.2.2.2.2.2.2 + 1)) := if_pos hfk
            exact ⟨cfG p1, nI (dmgN A.2.2.2.1.2.1 A.2.2.2.1.1), (decA A).2.2.1, d1_29, by rw [e9, codN_n (by omega)], rfl, o0, ga, h7, by rw [e9]; exact kr, ko, fun _ => by rw [e9], hag⟩
          · skip
            refine x_aload_n hC d_MessageCoderModel_receives_84 rfl rfl ?_
            refine x_getf hC kf_MessageCoderModel_9 o0 rfl d_MessageCoderModel_receives_85 ?_
            refine x_sipush hC d_MessageCoderModel_receives_88 (v := nI 218) (by decide) ?_
            refine x_iload_n hC d_MessageCoderModel_receives_91 rfl rfl ?_
            refine x_iadd hC d_MessageCoderModel_receives_92 (v := (nI (218 + i))) (x_addN (by omega)) ?_
            refine x_iload_n hC d_MessageCoderModel_receives_93 rfl rfl ?_
            refine x_aload_n hC d_MessageCoderModel_receives_94 rfl rfl ?_
            refine x_getf hC kf_MessageCoderModel_106 o0 rfl d_MessageCoderModel_receives_95 ?_
            refine x_icmpN_ge hC d_MessageCoderModel_receives_98 (tgt := 110) (by decide) (by omega) (by omega) (fun c_98 => ?_) (fun c_98 => ?_)
            · skip
              refine x_iconst hC d_MessageCoderModel_receives_110 (v := nI 0) (by decide) ?_
              refine x_iast hC ga (j := 218 + i) ⟨rfl, by omega, by omega⟩ d_MessageCoderModel_receives_111 (g1 := fun b9 => nI (updN p1 (218 + i) (0) b9)) (x_updN _ _ _) ?_
              generalize ega5 : updN p1 (218 + i) (0) = ga5
              generalize e13 : xup Fh78 (m + 1) (.inr (0, 4730, fun b9 => .int (nI (ga5 b9)))) = F13
              have o0 : F13 (m) = some (.inl (10, [.int (nI (th)), .ref (m + 1), .int (nI (ch)), .int (nI (sv)), .int (nI (dmgN A.2.2.2.1.2.1 A.2.2.2.1.1)), .ref (m + 2), .ref (m + 3), .ref (m + 4), .ref (m + 5), .ref (m + 6), .int (nI (bm)), .ref (m + 7), .int (nI ((decA A).2.2.1)), .ref (m + 8), .ref (m + 9), .int (nI (lz)), .ref (m + 10), .int (nI (ty)), .int (nI (he)), .int er, .int ea, .int fa, .ref (m + 11), .int (nI (cn))])) := by rw [← e13]; exact (xup_ne (by omega)).trans o0
              have ga : F13 (m + 1) = some (.inr (0, 4730, fun b9 => .int (nI (ga5 b9)))) := by rw [← e13]; exact xup_eq
              have h7 : F13 (m + 7) = some (.inr (0, 16, fun b9 => .int (nI (d1_29 b9)))) := by rw [← e13]; exact (xup_ne (by omega)).trans h7
              have hag : ∀ a9 : Nat, (a9 < m ∨ m + 2 ≤ a9) → (a9 < m + 7 ∨ m + 7 + 1 ≤ a9) → F13 a9 = F a9 := fun a9 q0 q1 => by rw [← e13]; exact (xup_ne (by omega)).trans (hag a9 q0 q1)
              refine x_iinc hC d_MessageCoderModel_receives_112 rfl (v := (nI (i + 1))) (x_incN 1) (Nat.le_of_ble_eq_true rfl) (L1 := [some (.ref m), some (.int (nI (i + 1)))]) rfl ?_
              refine x_goto hC d_MessageCoderModel_receives_115 (tgt := 78) (by decide) ?_
              exact ih_78 F13 (i + 1) (ga5) o0 ga h7 hag (by omega) (fun q hq => by rw [← ega5, updN_ne (by omega)]; exact ko1 q (by omega)) (fun j hj hd => (Nat.lt_or_ge j i).elim (fun q => by rw [← ega5, updN_ne (by omega)]; exact kx j q hd) (fun q => by first | (exfalso; omega) | (rw [← ega5, updN_at (by omega), show j = i by omega]; exact pk_29 i (by omega)))) (by omega)
            · skip
              refine x_aload_n hC d_MessageCoderModel_receives_101 rfl rfl ?_
              refine x_getf hC kf_MessageCoderModel_28 o0 rfl d_MessageCoderModel_receives_102 ?_
              refine x_iload_n hC d_MessageCoderModel_receives_105 rfl rfl ?_
              refine x_iald hC h7 (j := i) ⟨rfl, by omega, by omega⟩ (x := nI (d1_29 (i))) rfl d_MessageCoderModel_receives_106 ?_
              refine x_goto hC d_MessageCoderModel_receives_107 (tgt := 111) (by decide) ?_
              refine x_iast hC ga (j := 218 + i) ⟨rfl, by omega, by omega⟩ d_MessageCoderModel_receives_111 (g1 := fun b9 => nI (updN p1 (218 + i) (d1_29 (i)) b9)) (x_updN _ _ _) ?_
              generalize ega5 : updN p1 (218 + i) (d1_29 (i)) = ga5
              generalize e15 : xup Fh78 (m + 1) (.inr (0, 4730, fun b9 => .int (nI (ga5 b9)))) = F15
              have o0 : F15 (m) = some (.inl (10, [.int (nI (th)), .ref (m + 1), .int (nI (ch)), .int (nI (sv)), .int (nI (dmgN A.2.2.2.1.2.1 A.2.2.2.1.1)), .ref (m + 2), .ref (m + 3), .ref (m + 4), .ref (m + 5), .ref (m + 6), .int (nI (bm)), .ref (m + 7), .int (nI ((decA A).2.2.1)), .ref (m + 8), .ref (m + 9), .int (nI (lz)), .ref (m + 10), .int (nI (ty)), .int (nI (he)), .int er, .int ea, .int fa, .ref (m + 11), .int (nI (cn))])) := by rw [← e15]; exact (xup_ne (by omega)).trans o0
              have ga : F15 (m + 1) = some (.inr (0, 4730, fun b9 => .int (nI (ga5 b9)))) := by rw [← e15]; exact xup_eq
              have h7 : F15 (m + 7) = some (.inr (0, 16, fun b9 => .int (nI (d1_29 b9)))) := by rw [← e15]; exact (xup_ne (by omega)).trans h7
              have hag : ∀ a9 : Nat, (a9 < m ∨ m + 2 ≤ a9) → (a9 < m + 7 ∨ m + 7 + 1 ≤ a9) → F15 a9 = F a9 := fun a9 q0 q1 => by rw [← e15]; exact (xup_ne (by omega)).trans (hag a9 q0 q1)
              refine x_iinc hC d_MessageCoderModel_receives_112 rfl (v := (nI (i + 1))) (x_incN 1) (Nat.le_of_ble_eq_true rfl) (L1 := [some (.ref m), some (.int (nI (i + 1)))]) rfl ?_
              refine x_goto hC d_MessageCoderModel_receives_115 (tgt := 78) (by decide) ?_
              exact ih_78 F15 (i + 1) (ga5) o0 ga h7 hag (by omega) (fun q hq => by rw [← ega5, updN_ne (by omega)]; exact ko1 q (by omega)) (fun j hj hd => (Nat.lt_or_ge j i).elim (fun q => by rw [← ega5, updN_ne (by omega)]; exact kx j q hd) (fun q => by first | (exfalso; omega) | (rw [← ega5, updN_at (by omega), show j = i by omega]; exact pk_29 i (by omega)))) (by omega)
      exact loop_78 (16 - 0 + 1) F10 (0) (ga4) o0 ga h7 hag (by omega) (fun _ _ => rfl) (fun j hj => absurd hj (by omega)) (by omega)
    · skip
      refine x_iconst hC d_MessageCoderModel_receives_35 (v := nI 0) (by decide) ?_
      refine x_goto hC d_MessageCoderModel_receives_36 (tgt := 40) (by decide) ?_
      refine x_iadd hC d_MessageCoderModel_receives_40 (v := (nI (A.2.2.2.2.2.2.2.2))) (x_addN (by omega)) ?_
      refine x_iast hC ga (j := 6) ⟨rfl, by omega, by omega⟩ d_MessageCoderModel_receives_41 (g1 := fun b9 => nI (updN g (6) (A.2.2.2.2.2.2.2.2) b9)) (x_updN _ _ _) ?_
      generalize ega1 : updN g (6) (A.2.2.2.2.2.2.2.2) = ga1
      generalize e17 : xup F2 (m + 1) (.inr (0, 4730, fun b9 => .int (nI (ga1 b9)))) = F17
      have o0 : F17 (m) = some (.inl (10, [.int (nI (th)), .ref (m + 1), .int (nI (ch)), .int (nI (sv)), .int ((nI (dmgN A.2.2.2.1.2.1 A.2.2.2.1.1))), .ref (m + 2), .ref (m + 3), .ref (m + 4), .ref (m + 5), .ref (m + 6), .int (nI (bm)), .ref (m + 7), .int (nI ((decA A).2.2.1)), .ref (m + 8), .ref (m + 9), .int (nI (lz)), .ref (m + 10), .int (nI (ty)), .int (nI (he)), .int er, .int ea, .int fa, .ref (m + 11), .int (nI (cn))])) := by rw [← e17]; exact (xup_ne (by omega)).trans o0
      have ga : F17 (m + 1) = some (.inr (0, 4730, fun b9 => .int (nI (ga1 b9)))) := by rw [← e17]; exact xup_eq
      have h7 : F17 (m + 7) = some (.inr (0, 16, fun b9 => .int (nI (d1_29 b9)))) := by rw [← e17]; exact (xup_ne (by omega)).trans h7
      have hag : ∀ a9 : Nat, (a9 < m ∨ m + 2 ≤ a9) → (a9 < m + 7 ∨ m + 7 + 1 ≤ a9) → F17 a9 = F a9 := fun a9 q0 q1 => by rw [← e17]; exact (xup_ne (by omega)).trans (hag a9 q0 q1)
      refine x_aload_n hC d_MessageCoderModel_receives_42 rfl rfl ?_
      refine x_getf hC kf_MessageCoderModel_9 o0 rfl d_MessageCoderModel_receives_43 ?_
      refine x_iconst hC d_MessageCoderModel_receives_46 (v := nI 4) (by decide) ?_
      refine x_dup2 hC d_MessageCoderModel_receives_47 rfl rfl ?_
      refine x_iald hC ga (j := 4) ⟨rfl, by omega, by omega⟩ (x := nI (A.2.2.2.2.2.2.1)) (congrArg nI (by rw [← ega1, updN_ne (by omega)]; exact q4)) d_MessageCoderModel_receives_48 ?_
      refine x_iconst hC d_MessageCoderModel_receives_49 (v := nI 1) (by decide) ?_
      refine x_iadd hC d_MessageCoderModel_receives_50 (v := (nI (A.2.2.2.2.2.2.1 + 1))) (x_addN (by omega)) ?_
      refine x_iast hC ga (j := 4) ⟨rfl, by omega, by omega⟩ d_MessageCoderModel_receives_51 (g1 := fun b9 => nI (updN ga1 (4) (A.2.2.2.2.2.2.1 + 1) b9)) (x_updN _ _ _) ?_
      generalize ega2 : updN ga1 (4) (A.2.2.2.2.2.2.1 + 1) = ga2
      generalize e19 : xup F17 (m + 1) (.inr (0, 4730, fun b9 => .int (nI (ga2 b9)))) = F19
      have o0 : F19 (m) = some (.inl (10, [.int (nI (th)), .ref (m + 1), .int (nI (ch)), .int (nI (sv)), .int ((nI (dmgN A.2.2.2.1.2.1 A.2.2.2.1.1))), .ref (m + 2), .ref (m + 3), .ref (m + 4), .ref (m + 5), .ref (m + 6), .int (nI (bm)), .ref (m + 7), .int (nI ((decA A).2.2.1)), .ref (m + 8), .ref (m + 9), .int (nI (lz)), .ref (m + 10), .int (nI (ty)), .int (nI (he)), .int er, .int ea, .int fa, .ref (m + 11), .int (nI (cn))])) := by rw [← e19]; exact (xup_ne (by omega)).trans o0
      have ga : F19 (m + 1) = some (.inr (0, 4730, fun b9 => .int (nI (ga2 b9)))) := by rw [← e19]; exact xup_eq
      have h7 : F19 (m + 7) = some (.inr (0, 16, fun b9 => .int (nI (d1_29 b9)))) := by rw [← e19]; exact (xup_ne (by omega)).trans h7
      have hag : ∀ a9 : Nat, (a9 < m ∨ m + 2 ≤ a9) → (a9 < m + 7 ∨ m + 7 + 1 ≤ a9) → F19 a9 = F a9 := fun a9 q0 q1 => by rw [← e19]; exact (xup_ne (by omega)).trans (hag a9 q0 q1)
      refine x_aload_n hC d_MessageCoderModel_receives_52 rfl rfl ?_
      refine x_getf hC kf_MessageCoderModel_9 o0 rfl d_MessageCoderModel_receives_53 ?_
      refine x_iconst hC d_MessageCoderModel_receives_56 (v := nI 5) (by decide) ?_
      refine x_dup2 hC d_MessageCoderModel_receives_57 rfl rfl ?_
      refine x_iald hC ga (j := 5) ⟨rfl, by omega, by omega⟩ (x := nI (A.2.2.2.2.2.2.2.1)) (congrArg nI (by rw [← ega2, updN_ne (by omega), ← ega1, updN_ne (by omega)]; exact q5)) d_MessageCoderModel_receives_58 ?_
      refine x_aload_n hC d_MessageCoderModel_receives_59 rfl rfl ?_
      refine x_getf hC kf_MessageCoderModel_61 o0 rfl d_MessageCoderModel_receives_60 ?_
      refine x_top (v := (nI (dmgN A.2.2.2.1.2.1 A.2.2.2.1.1))) rfl ?_
      refine x_iadd hC d_MessageCoderModel_receives_63 (v := (nI ((A.2.2.2.2.2.2.2.1) + (dmgN A.2.2.2.1.2.1 A.2.2.2.1.1)))) (x_addN (by omega)) ?_
      refine x_iast hC ga (j := 5) ⟨rfl, by omega, by omega⟩ d_MessageCoderModel_receives_64 (g1 := fun b9 => nI (updN ga2 (5) ((A.2.2.2.2.2.2.2.1) + (dmgN A.2.2.2.1.2.1 A.2.2.2.1.1)) b9)) (x_updN _ _ _) ?_
      generalize ega3 : updN ga2 (5) ((A.2.2.2.2.2.2.2.1) + (dmgN A.2.2.2.1.2.1 A.2.2.2.1.1)) = ga3
      generalize e21 : xup F19 (m + 1) (.inr (0, 4730, fun b9 => .int (nI (ga3 b9)))) = F21
      have o0 : F21 (m) = some (.inl (10, [.int (nI (th)), .ref (m + 1), .int (nI (ch)), .int (nI (sv)), .int ((nI (dmgN A.2.2.2.1.2.1 A.2.2.2.1.1))), .ref (m + 2), .ref (m + 3), .ref (m + 4), .ref (m + 5), .ref (m + 6), .int (nI (bm)), .ref (m + 7), .int (nI ((decA A).2.2.1)), .ref (m + 8), .ref (m + 9), .int (nI (lz)), .ref (m + 10), .int (nI (ty)), .int (nI (he)), .int er, .int ea, .int fa, .ref (m + 11), .int (nI (cn))])) := by rw [← e21]; exact (xup_ne (by omega)).trans o0
      have ga : F21 (m + 1) = some (.inr (0, 4730, fun b9 => .int (nI (ga3 b9)))) := by rw [← e21]; exact xup_eq
      have h7 : F21 (m + 7) = some (.inr (0, 16, fun b9 => .int (nI (d1_29 b9)))) := by rw [← e21]; exact (xup_ne (by omega)).trans h7
      have hag : ∀ a9 : Nat, (a9 < m ∨ m + 2 ≤ a9) → (a9 < m + 7 ∨ m + 7 + 1 ≤ a9) → F21 a9 = F a9 := fun a9 q0 q1 => by rw [← e21]; exact (xup_ne (by omega)).trans (hag a9 q0 q1)
      refine x_aload_n hC d_MessageCoderModel_receives_65 rfl rfl ?_
      refine x_getf hC kf_MessageCoderModel_9 o0 rfl d_MessageCoderModel_receives_66 ?_
      refine x_bipush hC d_MessageCoderModel_receives_69 (v := nI 9) (by decide) ?_
      refine x_aload_n hC d_MessageCoderModel_receives_71 rfl rfl ?_
      refine x_getf hC kf_MessageCoderModel_106 o0 rfl d_MessageCoderModel_receives_72 ?_
      refine x_iast hC ga (j := 9) ⟨rfl, by omega, by omega⟩ d_MessageCoderModel_receives_75 (g1 := fun b9 => nI (updN ga3 (9) ((decA A).2.2.1) b9)) (x_updN _ _ _) ?_
      generalize ega4 : updN ga3 (9) ((decA A).2.2.1) = ga4
      generalize e23 : xup F21 (m + 1) (.inr (0, 4730, fun b9 => .int (nI (ga4 b9)))) = F23
      have o0 : F23 (m) = some (.inl (10, [.int (nI (th)), .ref (m + 1), .int (nI (ch)), .int (nI (sv)), .int ((nI (dmgN A.2.2.2.1.2.1 A.2.2.2.1.1))), .ref (m + 2), .ref (m + 3), .ref (m + 4), .ref (m + 5), .ref (m + 6), .int (nI (bm)), .ref (m + 7), .int (nI ((decA A).2.2.1)), .ref (m + 8), .ref (m + 9), .int (nI (lz)), .ref (m + 10), .int (nI (ty)), .int (nI (he)), .int er, .int ea, .int fa, .ref (m + 11), .int (nI (cn))])) := by rw [← e23]; exact (xup_ne (by omega)).trans o0
      have ga : F23 (m + 1) = some (.inr (0, 4730, fun b9 => .int (nI (ga4 b9)))) := by rw [← e23]; exact xup_eq
      have h7 : F23 (m + 7) = some (.inr (0, 16, fun b9 => .int (nI (d1_29 b9)))) := by rw [← e23]; exact (xup_ne (by omega)).trans h7
      have hag : ∀ a9 : Nat, (a9 < m ∨ m + 2 ≤ a9) → (a9 < m + 7 ∨ m + 7 + 1 ≤ a9) → F23 a9 = F a9 := fun a9 q0 q1 => by rw [← e23]; exact (xup_ne (by omega)).trans (hag a9 q0 q1)
      refine x_iconst hC d_MessageCoderModel_receives_76 (v := nI 0) (by decide) ?_
      refine x_istore_n hC d_MessageCoderModel_receives_77 rfl (Nat.le_of_ble_eq_true rfl) (L1 := [some (.ref m), some (.int (nI 0))]) rfl ?_
      have loop_78 : ∀ (m9 : Nat) (Fh78 : xF) (i : Nat) (p1 : Nat → Nat), (Fh78 (m) = some (.inl (10, [.int (nI (th)), .ref (m + 1), .int (nI (ch)), .int (nI (sv)), .int (nI (dmgN A.2.2.2.1.2.1 A.2.2.2.1.1)), .ref (m + 2), .ref (m + 3), .ref (m + 4), .ref (m + 5), .ref (m + 6), .int (nI (bm)), .ref (m + 7), .int (nI ((decA A).2.2.1)), .ref (m + 8), .ref (m + 9), .int (nI (lz)), .ref (m + 10), .int (nI (ty)), .int (nI (he)), .int er, .int ea, .int fa, .ref (m + 11), .int (nI (cn))]))) → (Fh78 (m + 1) = some (.inr (0, 4730, fun b9 => .int (nI (p1 b9))))) → (Fh78 (m + 7) = some (.inr (0, 16, fun b9 => .int (nI (d1_29 b9))))) → (∀ a9 : Nat, (a9 < m ∨ m + 2 ≤ a9) → (a9 < m + 7 ∨ m + 7 + 1 ≤ a9) → Fh78 a9 = F a9) → (i ≤ 16) → (∀ q, ¬ (218 ≤ q ∧ q < 218 + i) → p1 q = ga4 q) → (∀ j, j < i → j < (decA A).2.2.1 → p1 (218 + j) + 97 = (decA A).2.2.2 j) → (16 - i < m9) → xX P Θ 78 [some (.ref m), some (.int (nI (i)))] [] Fh78 (z) 0 0 := by
        intro m9
        induction m9 with
        | zero => intros; omega
        | succ m9 ih_78 =>
          intro Fh78 i p1 o0 ga h7 hag hi ko1 kx hm_78
          refine x_iload_n hC d_MessageCoderModel_receives_78 rfl rfl ?_
          refine x_bipush hC d_MessageCoderModel_receives_79 (v := nI 16) (by decide) ?_
          refine x_icmpN_ge hC d_MessageCoderModel_receives_81 (tgt := 118) (by decide) (by omega) (by omega) (fun c_81 => ?_) (fun c_81 => ?_)
          · skip
            refine x_aload_n hC d_MessageCoderModel_receives_118 rfl rfl ?_
            refine x_callV hC kv_MessageCoderModel_173 (c_MessageCoderModel_clearsFrame (o0 := o0) (ga := ga)) o0 rfl rfl (by decide) rfl rfl rfl (Nat.le_of_ble_eq_true rfl) (by decide) d_MessageCoderModel_receives_119 (fun r9 F9 z9 hp9 => ?_)
            obtain ⟨rfl, h9c, j0, j1, hag9⟩ := hp9
            rw [h9c]
            clear h9c z9
            generalize F9 = F24 at *
            have h7 : F24 (m + 7) = some (.inr (0, 16, fun b9 => .int (nI (d1_29 b9)))) := (hag9 _ (by omega)).trans h7
            have o0 : F24 (m) = some (.inl (10, [.int (nI (th)), .ref (m + 1), .int (nI (ch)), .int (nI (sv)), .int ((nI (dmgN A.2.2.2.1.2.1 A.2.2.2.1.1))), .ref (m + 2), .ref (m + 3), .ref (m + 4), .ref (m + 5), .ref (m + 6), .int (nI (bm)), .ref (m + 7), .int (nI (((decA A).2.2.1))), .ref (m + 8), .ref (m + 9), .int (nI (lz)), .ref (m + 10), .int (nI (ty)), .int (nI (he)), .int er, .int ea, .int fa, .ref (m + 11), .int (nI (cn))])) := j0
            have ga : F24 (m + 1) = some (.inr (0, 4730, fun b9 => .int (nI ((cfG p1) b9)))) := j1
            have hag : ∀ a9 : Nat, (a9 < m ∨ m + 2 ≤ a9) → (a9 < m + 7 ∨ m + 7 + 1 ≤ a9) → F24 a9 = F a9 := fun a9 q0 q1 => (hag9 a9 (by omega)).trans (hag a9 q0 q1)
            have hg_119 := hag9
            clear hag9
            refine x_iconst hC d_MessageCoderModel_receives_122 (v := nI 0) (by decide) ?_
            refine hret _ _ _ _ _ _ _ d_MessageCoderModel_receives_123 (by decide) (by decide) rfl ?_
            have hf : ∀ q, ¬ (4 ≤ q ∧ q < 10) ∧ (q < 186 ∨ 430 ≤ q) → cfG p1 q = g q := fun q hq => by rw [cfG_o (by omega), ko1 q (by omega), ← ega4, updN_ne (by omega), ← ega3, updN_ne (by omega), ← ega2, updN_ne (by omega), ← ega1, updN_ne (by omega)]
            have kr : rRow (cfG p1) (A.1, A.2.1, A.2.2.1, (0, A.2.2.2.1.2), ((decA A).2.2.1, (decA A).2.2.2), A.2.2.2.2.2.1, A.2.2.2.2.2.2.1 + 1, A.2.2.2.2.2.2.2.1 + dmgN A.2.2.2.1.2.1 A.2.2.2.1.1, if sameA A then A.2.2.2.2.2.2.2.2 else A.2.2.2.2.2.2.2.2 + 1) := ⟨⟨(hf 0 (by omega)).trans q0, (hf 1 (by omega)).trans q1, (hf 2 (by omega)).trans q2, (hf 3 (by omega)).trans q3, by rw [cfG_o (by omega), ko1 4 (by omega), ← ega4, updN_ne (by omega), ← ega3, updN_ne (by omega), ← ega2]; exact updN_eq, by rw [cfG_o (by omega), ko1 5 (by omega), ← ega4, updN_ne (by omega), ← ega3]; exact updN_eq, by rw [cfG_o (by omega), ko1 6 (by omega), ← ega4, updN_ne (by omega), ← ega3, updN_ne (by omega), ← ega2, updN_ne (by omega), ← ega1, updN_eq]; exact (if_pos c_32).symm, cfG_7 _, by rw [cfG_o (by omega), ko1 9 (by omega), ← ega4]; exact updN_eq⟩, fun j (hj : j < 8) => (hf _ (by omega)).trans (qw j hj), fun j (hj : j < A.2.1.1) => by rw [hf _ (by omega)]; exact qd j hj, fun i (hi : i < A.2.2.1.1) => rMsg_ext (um i hi).2.2.1 (fun q hq => hf _ (by omega)) (qm i hi), fun hk9 => absurd hk9 (Nat.lt_irrefl 0), fun j (hj : j < (decA A).2.2.1) => by rw [cfG_o (by omega)]; exact kx j (by omega) hj, fun b hb => absurd hb (Nat.not_lt_zero b)⟩
            have ko : ∀ q, 430 ≤ q → cfG p1 q = g q := fun q hq => hf q (by omega)
            have e9 : aRe A = (nI (dmgN A.2.2.2.1.2.1 A.2.2.2.1.1), (A.1, A.2.1, A.2.2.1, (0, A.2.2.2.1.2), ((decA A).2.2.1, (decA A).2.2.2), A.2.2.2.2.2.1, A.2.2.2.2.2.2.1 + 1, A.2.2.2.2.2.2.2.1 + dmgN A.2.2.2.1.2.1 A.2.2.2.1.1, if sameA A then A.2.2.2.2.2.2.2.2 else A.2.2.2.2.2.2.2.2 + 1)) := if_pos hfk
            exact ⟨cfG p1, nI (dmgN A.2.2.2.1.2.1 A.2.2.2.1.1), (decA A).2.2.1, d1_29, by rw [e9, codN_n (by omega)], rfl, o0, ga, h7, by rw [e9]; exact kr, ko, fun _ => by rw [e9], hag⟩
          · skip
            refine x_aload_n hC d_MessageCoderModel_receives_84 rfl rfl ?_
            refine x_getf hC kf_MessageCoderModel_9 o0 rfl d_MessageCoderModel_receives_85 ?_
            refine x_sipush hC d_MessageCoderModel_receives_88 (v := nI 218) (by decide) ?_
            refine x_iload_n hC d_MessageCoderModel_receives_91 rfl rfl ?_
            refine x_iadd hC d_MessageCoderModel_receives_92 (v := (nI (218 + i))) (x_addN (by omega)) ?_
            refine x_iload_n hC d_MessageCoderModel_receives_93 rfl rfl ?_
            refine x_aload_n hC d_MessageCoderModel_receives_94 rfl rfl ?_
            refine x_getf hC kf_MessageCoderModel_106 o0 rfl d_MessageCoderModel_receives_95 ?_
            refine x_icmpN_ge hC d_MessageCoderModel_receives_98 (tgt := 110) (by decide) (by omega) (by omega) (fun c_98 => ?_) (fun c_98 => ?_)
            · skip
              refine x_iconst hC d_MessageCoderModel_receives_110 (v := nI 0) (by decide) ?_
              refine x_iast hC ga (j := 218 + i) ⟨rfl, by omega, by omega⟩ d_MessageCoderModel_receives_111 (g1 := fun b9 => nI (updN p1 (218 + i) (0) b9)) (x_updN _ _ _) ?_
              generalize ega5 : updN p1 (218 + i) (0) = ga5
              generalize e26 : xup Fh78 (m + 1) (.inr (0, 4730, fun b9 => .int (nI (ga5 b9)))) = F26
              have o0 : F26 (m) = some (.inl (10, [.int (nI (th)), .ref (m + 1), .int (nI (ch)), .int (nI (sv)), .int (nI (dmgN A.2.2.2.1.2.1 A.2.2.2.1.1)), .ref (m + 2), .ref (m + 3), .ref (m + 4), .ref (m + 5), .ref (m + 6), .int (nI (bm)), .ref (m + 7), .int (nI ((decA A).2.2.1)), .ref (m + 8), .ref (m + 9), .int (nI (lz)), .ref (m + 10), .int (nI (ty)), .int (nI (he)), .int er, .int ea, .int fa, .ref (m + 11), .int (nI (cn))])) := by rw [← e26]; exact (xup_ne (by omega)).trans o0
              have ga : F26 (m + 1) = some (.inr (0, 4730, fun b9 => .int (nI (ga5 b9)))) := by rw [← e26]; exact xup_eq
              have h7 : F26 (m + 7) = some (.inr (0, 16, fun b9 => .int (nI (d1_29 b9)))) := by rw [← e26]; exact (xup_ne (by omega)).trans h7
              have hag : ∀ a9 : Nat, (a9 < m ∨ m + 2 ≤ a9) → (a9 < m + 7 ∨ m + 7 + 1 ≤ a9) → F26 a9 = F a9 := fun a9 q0 q1 => by rw [← e26]; exact (xup_ne (by omega)).trans (hag a9 q0 q1)
              refine x_iinc hC d_MessageCoderModel_receives_112 rfl (v := (nI (i + 1))) (x_incN 1) (Nat.le_of_ble_eq_true rfl) (L1 := [some (.ref m), some (.int (nI (i + 1)))]) rfl ?_
              refine x_goto hC d_MessageCoderModel_receives_115 (tgt := 78) (by decide) ?_
              exact ih_78 F26 (i + 1) (ga5) o0 ga h7 hag (by omega) (fun q hq => by rw [← ega5, updN_ne (by omega)]; exact ko1 q (by omega)) (fun j hj hd => (Nat.lt_or_ge j i).elim (fun q => by rw [← ega5, updN_ne (by omega)]; exact kx j q hd) (fun q => by first | (exfalso; omega) | (rw [← ega5, updN_at (by omega), show j = i by omega]; exact pk_29 i (by omega)))) (by omega)
            · skip
              refine x_aload_n hC d_MessageCoderModel_receives_101 rfl rfl ?_
              refine x_getf hC kf_MessageCoderModel_28 o0 rfl d_MessageCoderModel_receives_102 ?_
              refine x_iload_n hC d_MessageCoderModel_receives_105 rfl rfl ?_
              refine x_iald hC h7 (j := i) ⟨rfl, by omega, by omega⟩ (x := nI (d1_29 (i))) rfl d_MessageCoderModel_receives_106 ?_
              refine x_goto hC d_MessageCoderModel_receives_107 (tgt := 111) (by decide) ?_
              refine x_iast hC ga (j := 218 + i) ⟨rfl, by omega, by omega⟩ d_MessageCoderModel_receives_111 (g1 := fun b9 => nI (updN p1 (218 + i) (d1_29 (i)) b9)) (x_updN _ _ _) ?_
              generalize ega5 : updN p1 (218 + i) (d1_29 (i)) = ga5
              generalize e28 : xup Fh78 (m + 1) (.inr (0, 4730, fun b9 => .int (nI (ga5 b9)))) = F28
              have o0 : F28 (m) = some (.inl (10, [.int (nI (th)), .ref (m + 1), .int (nI (ch)), .int (nI (sv)), .int (nI (dmgN A.2.2.2.1.2.1 A.2.2.2.1.1)), .ref (m + 2), .ref (m + 3), .ref (m + 4), .ref (m + 5), .ref (m + 6), .int (nI (bm)), .ref (m + 7), .int (nI ((decA A).2.2.1)), .ref (m + 8), .ref (m + 9), .int (nI (lz)), .ref (m + 10), .int (nI (ty)), .int (nI (he)), .int er, .int ea, .int fa, .ref (m + 11), .int (nI (cn))])) := by rw [← e28]; exact (xup_ne (by omega)).trans o0
              have ga : F28 (m + 1) = some (.inr (0, 4730, fun b9 => .int (nI (ga5 b9)))) := by rw [← e28]; exact xup_eq
              have h7 : F28 (m + 7) = some (.inr (0, 16, fun b9 => .int (nI (d1_29 b9)))) := by rw [← e28]; exact (xup_ne (by omega)).trans h7
              have hag : ∀ a9 : Nat, (a9 < m ∨ m + 2 ≤ a9) → (a9 < m + 7 ∨ m + 7 + 1 ≤ a9) → F28 a9 = F a9 := fun a9 q0 q1 => by rw [← e28]; exact (xup_ne (by omega)).trans (hag a9 q0 q1)
              refine x_iinc hC d_MessageCoderModel_receives_112 rfl (v := (nI (i + 1))) (x_incN 1) (Nat.le_of_ble_eq_true rfl) (L1 := [some (.ref m), some (.int (nI (i + 1)))]) rfl ?_
              refine x_goto hC d_MessageCoderModel_receives_115 (tgt := 78) (by decide) ?_
              exact ih_78 F28 (i + 1) (ga5) o0 ga h7 hag (by omega) (fun q hq => by rw [← ega5, updN_ne (by omega)]; exact ko1 q (by omega)) (fun j hj hd => (Nat.lt_or_ge j i).elim (fun q => by rw [← ega5, updN_ne (by omega)]; exact kx j q hd) (fun q => by first | (exfalso; omega) | (rw [← ega5, updN_at (by omega), show j = i by omega]; exact pk_29 i (by omega)))) (by omega)
      exact loop_78 (16 - 0 + 1) F23 (0) (ga4) o0 ga h7 hag (by omega) (fun _ _ => rfl) (fun j hj => absurd hj (by omega)) (by omega)
  · skip
    refine x_iconst hC d_MessageCoderModel_receives_10 (v := nI 3) (by decide) ?_
    refine hret _ _ _ _ _ _ _ d_MessageCoderModel_receives_11 (by decide) (by decide) rfl ?_
    have e9 : aRe A = (-3, A) := if_neg (by omega)
    exact ⟨g, rs, dm, d0, by rw [e9]; rfl, rfl, o0, ga, h7, by rw [e9]; exact hr, fun _ _ => rfl, fun h9 => absurd h9 (by rw [e9]; show ¬ codN (-3) = 0; decide), hag⟩

theorem d_MessageCoderModel_sends_0 : decode prog_14_method_48_code 0 = .ok (.aload_n 0, 1) := by decide +kernel
theorem d_MessageCoderModel_sends_1 : decode prog_14_method_48_code 1 = .ok (.iconst 0, 1) := by decide +kernel
theorem d_MessageCoderModel_sends_2 : decode prog_14_method_48_code 2 = .ok (.invokevirtual 167, 3) := by decide +kernel
theorem d_MessageCoderModel_sends_5 : decode prog_14_method_48_code 5 = .ok (.istore_n 1, 1) := by decide +kernel
theorem d_MessageCoderModel_sends_6 : decode prog_14_method_48_code 6 = .ok (.iload_n 1, 1) := by decide +kernel
theorem d_MessageCoderModel_sends_7 : decode prog_14_method_48_code 7 = .ok (.ifCond .ge 5, 3) := by decide +kernel
theorem d_MessageCoderModel_sends_10 : decode prog_14_method_48_code 10 = .ok (.iconst 3, 1) := by decide +kernel
theorem d_MessageCoderModel_sends_11 : decode prog_14_method_48_code 11 = .ok (.ireturn, 1) := by decide +kernel
theorem d_MessageCoderModel_sends_12 : decode prog_14_method_48_code 12 = .ok (.aload_n 0, 1) := by decide +kernel
theorem d_MessageCoderModel_sends_13 : decode prog_14_method_48_code 13 = .ok (.iload_n 1, 1) := by decide +kernel
theorem d_MessageCoderModel_sends_14 : decode prog_14_method_48_code 14 = .ok (.invokevirtual 170, 3) := by decide +kernel
theorem d_MessageCoderModel_sends_17 : decode prog_14_method_48_code 17 = .ok (.aload_n 0, 1) := by decide +kernel
theorem d_MessageCoderModel_sends_18 : decode prog_14_method_48_code 18 = .ok (.invokevirtual 173, 3) := by decide +kernel
theorem d_MessageCoderModel_sends_21 : decode prog_14_method_48_code 21 = .ok (.aload_n 0, 1) := by decide +kernel
theorem d_MessageCoderModel_sends_22 : decode prog_14_method_48_code 22 = .ok (.getfield 94, 3) := by decide +kernel
theorem d_MessageCoderModel_sends_25 : decode prog_14_method_48_code 25 = .ok (.iconst 3, 1) := by decide +kernel
theorem d_MessageCoderModel_sends_26 : decode prog_14_method_48_code 26 = .ok (.iadd, 1) := by decide +kernel
theorem d_MessageCoderModel_sends_27 : decode prog_14_method_48_code 27 = .ok (.iconst 4, 1) := by decide +kernel
theorem d_MessageCoderModel_sends_28 : decode prog_14_method_48_code 28 = .ok (.idiv, 1) := by decide +kernel
theorem d_MessageCoderModel_sends_29 : decode prog_14_method_48_code 29 = .ok (.istore_n 2, 1) := by decide +kernel
theorem d_MessageCoderModel_sends_30 : decode prog_14_method_48_code 30 = .ok (.iconst 0, 1) := by decide +kernel
theorem d_MessageCoderModel_sends_31 : decode prog_14_method_48_code 31 = .ok (.istore_n 3, 1) := by decide +kernel
theorem d_MessageCoderModel_sends_32 : decode prog_14_method_48_code 32 = .ok (.iload_n 3, 1) := by decide +kernel
theorem d_MessageCoderModel_sends_33 : decode prog_14_method_48_code 33 = .ok (.iload_n 2, 1) := by decide +kernel
theorem d_MessageCoderModel_sends_34 : decode prog_14_method_48_code 34 = .ok (.if_icmp .ge 14, 3) := by decide +kernel
theorem d_MessageCoderModel_sends_37 : decode prog_14_method_48_code 37 = .ok (.aload_n 0, 1) := by decide +kernel
theorem d_MessageCoderModel_sends_38 : decode prog_14_method_48_code 38 = .ok (.iload_n 3, 1) := by decide +kernel
theorem d_MessageCoderModel_sends_39 : decode prog_14_method_48_code 39 = .ok (.invokevirtual 176, 3) := by decide +kernel
theorem d_MessageCoderModel_sends_42 : decode prog_14_method_48_code 42 = .ok (.iinc 3 1, 3) := by decide +kernel
theorem d_MessageCoderModel_sends_45 : decode prog_14_method_48_code 45 = .ok (.goto (-13), 3) := by decide +kernel
theorem d_MessageCoderModel_sends_48 : decode prog_14_method_48_code 48 = .ok (.aload_n 0, 1) := by decide +kernel
theorem d_MessageCoderModel_sends_49 : decode prog_14_method_48_code 49 = .ok (.getfield 9, 3) := by decide +kernel
theorem d_MessageCoderModel_sends_52 : decode prog_14_method_48_code 52 = .ok (.bipush 7, 2) := by decide +kernel
theorem d_MessageCoderModel_sends_54 : decode prog_14_method_48_code 54 = .ok (.bipush 7, 2) := by decide +kernel
theorem d_MessageCoderModel_sends_56 : decode prog_14_method_48_code 56 = .ok (.iload_n 2, 1) := by decide +kernel
theorem d_MessageCoderModel_sends_57 : decode prog_14_method_48_code 57 = .ok (.imul, 1) := by decide +kernel
theorem d_MessageCoderModel_sends_58 : decode prog_14_method_48_code 58 = .ok (.iastore, 1) := by decide +kernel
theorem d_MessageCoderModel_sends_59 : decode prog_14_method_48_code 59 = .ok (.aload_n 0, 1) := by decide +kernel
theorem d_MessageCoderModel_sends_60 : decode prog_14_method_48_code 60 = .ok (.getfield 9, 3) := by decide +kernel
theorem d_MessageCoderModel_sends_63 : decode prog_14_method_48_code 63 = .ok (.bipush 8, 2) := by decide +kernel
theorem d_MessageCoderModel_sends_65 : decode prog_14_method_48_code 65 = .ok (.aload_n 0, 1) := by decide +kernel
theorem d_MessageCoderModel_sends_66 : decode prog_14_method_48_code 66 = .ok (.iload_n 1, 1) := by decide +kernel
theorem d_MessageCoderModel_sends_67 : decode prog_14_method_48_code 67 = .ok (.iconst 2, 1) := by decide +kernel
theorem d_MessageCoderModel_sends_68 : decode prog_14_method_48_code 68 = .ok (.invokevirtual 81, 3) := by decide +kernel
theorem d_MessageCoderModel_sends_71 : decode prog_14_method_48_code 71 = .ok (.iastore, 1) := by decide +kernel
theorem d_MessageCoderModel_sends_72 : decode prog_14_method_48_code 72 = .ok (.iconst 0, 1) := by decide +kernel
theorem d_MessageCoderModel_sends_73 : decode prog_14_method_48_code 73 = .ok (.istore_n 3, 1) := by decide +kernel
theorem d_MessageCoderModel_sends_74 : decode prog_14_method_48_code 74 = .ok (.iload_n 3, 1) := by decide +kernel
theorem d_MessageCoderModel_sends_75 : decode prog_14_method_48_code 75 = .ok (.bipush 16, 2) := by decide +kernel
theorem d_MessageCoderModel_sends_77 : decode prog_14_method_48_code 77 = .ok (.if_icmp .ge 27, 3) := by decide +kernel
theorem d_MessageCoderModel_sends_80 : decode prog_14_method_48_code 80 = .ok (.aload_n 0, 1) := by decide +kernel
theorem d_MessageCoderModel_sends_81 : decode prog_14_method_48_code 81 = .ok (.getfield 9, 3) := by decide +kernel
theorem d_MessageCoderModel_sends_84 : decode prog_14_method_48_code 84 = .ok (.sipush 202, 3) := by decide +kernel
theorem d_MessageCoderModel_sends_87 : decode prog_14_method_48_code 87 = .ok (.iload_n 3, 1) := by decide +kernel
theorem d_MessageCoderModel_sends_88 : decode prog_14_method_48_code 88 = .ok (.iadd, 1) := by decide +kernel
theorem d_MessageCoderModel_sends_89 : decode prog_14_method_48_code 89 = .ok (.aload_n 0, 1) := by decide +kernel
theorem d_MessageCoderModel_sends_90 : decode prog_14_method_48_code 90 = .ok (.iload_n 1, 1) := by decide +kernel
theorem d_MessageCoderModel_sends_91 : decode prog_14_method_48_code 91 = .ok (.iconst 3, 1) := by decide +kernel
theorem d_MessageCoderModel_sends_92 : decode prog_14_method_48_code 92 = .ok (.iload_n 3, 1) := by decide +kernel
theorem d_MessageCoderModel_sends_93 : decode prog_14_method_48_code 93 = .ok (.iadd, 1) := by decide +kernel
theorem d_MessageCoderModel_sends_94 : decode prog_14_method_48_code 94 = .ok (.invokevirtual 81, 3) := by decide +kernel
theorem d_MessageCoderModel_sends_97 : decode prog_14_method_48_code 97 = .ok (.iastore, 1) := by decide +kernel
theorem d_MessageCoderModel_sends_98 : decode prog_14_method_48_code 98 = .ok (.iinc 3 1, 3) := by decide +kernel
theorem d_MessageCoderModel_sends_101 : decode prog_14_method_48_code 101 = .ok (.goto (-27), 3) := by decide +kernel
theorem d_MessageCoderModel_sends_104 : decode prog_14_method_48_code 104 = .ok (.iconst 0, 1) := by decide +kernel
theorem d_MessageCoderModel_sends_105 : decode prog_14_method_48_code 105 = .ok (.istore_n 3, 1) := by decide +kernel
theorem d_MessageCoderModel_sends_106 : decode prog_14_method_48_code 106 = .ok (.iload_n 3, 1) := by decide +kernel
theorem d_MessageCoderModel_sends_107 : decode prog_14_method_48_code 107 = .ok (.bipush 8, 2) := by decide +kernel
theorem d_MessageCoderModel_sends_109 : decode prog_14_method_48_code 109 = .ok (.if_icmp .ge 41, 3) := by decide +kernel
theorem d_MessageCoderModel_sends_112 : decode prog_14_method_48_code 112 = .ok (.aload_n 0, 1) := by decide +kernel
theorem d_MessageCoderModel_sends_113 : decode prog_14_method_48_code 113 = .ok (.getfield 9, 3) := by decide +kernel
theorem d_MessageCoderModel_sends_116 : decode prog_14_method_48_code 116 = .ok (.sipush 186, 3) := by decide +kernel
theorem d_MessageCoderModel_sends_119 : decode prog_14_method_48_code 119 = .ok (.iload_n 3, 1) := by decide +kernel
theorem d_MessageCoderModel_sends_120 : decode prog_14_method_48_code 120 = .ok (.iadd, 1) := by decide +kernel
theorem d_MessageCoderModel_sends_121 : decode prog_14_method_48_code 121 = .ok (.aload_n 0, 1) := by decide +kernel
theorem d_MessageCoderModel_sends_122 : decode prog_14_method_48_code 122 = .ok (.getfield 13, 3) := by decide +kernel
theorem d_MessageCoderModel_sends_125 : decode prog_14_method_48_code 125 = .ok (.iload_n 3, 1) := by decide +kernel
theorem d_MessageCoderModel_sends_126 : decode prog_14_method_48_code 126 = .ok (.iaload, 1) := by decide +kernel
theorem d_MessageCoderModel_sends_127 : decode prog_14_method_48_code 127 = .ok (.iastore, 1) := by decide +kernel
theorem d_MessageCoderModel_sends_128 : decode prog_14_method_48_code 128 = .ok (.aload_n 0, 1) := by decide +kernel
theorem d_MessageCoderModel_sends_129 : decode prog_14_method_48_code 129 = .ok (.getfield 9, 3) := by decide +kernel
theorem d_MessageCoderModel_sends_132 : decode prog_14_method_48_code 132 = .ok (.sipush 194, 3) := by decide +kernel
theorem d_MessageCoderModel_sends_135 : decode prog_14_method_48_code 135 = .ok (.iload_n 3, 1) := by decide +kernel
theorem d_MessageCoderModel_sends_136 : decode prog_14_method_48_code 136 = .ok (.iadd, 1) := by decide +kernel
theorem d_MessageCoderModel_sends_137 : decode prog_14_method_48_code 137 = .ok (.aload_n 0, 1) := by decide +kernel
theorem d_MessageCoderModel_sends_138 : decode prog_14_method_48_code 138 = .ok (.getfield 16, 3) := by decide +kernel
theorem d_MessageCoderModel_sends_141 : decode prog_14_method_48_code 141 = .ok (.iload_n 3, 1) := by decide +kernel
theorem d_MessageCoderModel_sends_142 : decode prog_14_method_48_code 142 = .ok (.iaload, 1) := by decide +kernel
theorem d_MessageCoderModel_sends_143 : decode prog_14_method_48_code 143 = .ok (.iastore, 1) := by decide +kernel
theorem d_MessageCoderModel_sends_144 : decode prog_14_method_48_code 144 = .ok (.iinc 3 1, 3) := by decide +kernel
theorem d_MessageCoderModel_sends_147 : decode prog_14_method_48_code 147 = .ok (.goto (-41), 3) := by decide +kernel
theorem d_MessageCoderModel_sends_150 : decode prog_14_method_48_code 150 = .ok (.aload_n 0, 1) := by decide +kernel
theorem d_MessageCoderModel_sends_151 : decode prog_14_method_48_code 151 = .ok (.iload_n 1, 1) := by decide +kernel
theorem d_MessageCoderModel_sends_152 : decode prog_14_method_48_code 152 = .ok (.invokevirtual 145, 3) := by decide +kernel
theorem d_MessageCoderModel_sends_155 : decode prog_14_method_48_code 155 = .ok (.aload_n 0, 1) := by decide +kernel
theorem d_MessageCoderModel_sends_156 : decode prog_14_method_48_code 156 = .ok (.getfield 9, 3) := by decide +kernel
theorem d_MessageCoderModel_sends_159 : decode prog_14_method_48_code 159 = .ok (.iconst 3, 1) := by decide +kernel
theorem d_MessageCoderModel_sends_160 : decode prog_14_method_48_code 160 = .ok (.dup2, 1) := by decide +kernel
theorem d_MessageCoderModel_sends_161 : decode prog_14_method_48_code 161 = .ok (.iaload, 1) := by decide +kernel
theorem d_MessageCoderModel_sends_162 : decode prog_14_method_48_code 162 = .ok (.iconst 1, 1) := by decide +kernel
theorem d_MessageCoderModel_sends_163 : decode prog_14_method_48_code 163 = .ok (.iadd, 1) := by decide +kernel
theorem d_MessageCoderModel_sends_164 : decode prog_14_method_48_code 164 = .ok (.iastore, 1) := by decide +kernel
theorem d_MessageCoderModel_sends_165 : decode prog_14_method_48_code 165 = .ok (.aload_n 0, 1) := by decide +kernel
theorem d_MessageCoderModel_sends_166 : decode prog_14_method_48_code 166 = .ok (.aload_n 0, 1) := by decide +kernel
theorem d_MessageCoderModel_sends_167 : decode prog_14_method_48_code 167 = .ok (.getfield 9, 3) := by decide +kernel
theorem d_MessageCoderModel_sends_170 : decode prog_14_method_48_code 170 = .ok (.bipush 7, 2) := by decide +kernel
theorem d_MessageCoderModel_sends_172 : decode prog_14_method_48_code 172 = .ok (.iaload, 1) := by decide +kernel
theorem d_MessageCoderModel_sends_173 : decode prog_14_method_48_code 173 = .ok (.putfield 61, 3) := by decide +kernel
theorem d_MessageCoderModel_sends_176 : decode prog_14_method_48_code 176 = .ok (.iconst 0, 1) := by decide +kernel
theorem d_MessageCoderModel_sends_177 : decode prog_14_method_48_code 177 = .ok (.ireturn, 1) := by decide +kernel
set_option maxHeartbeats 4000000 in
set_option maxRecDepth 20000 in
theorem c_MessageCoderModel_sends {P : xP} {F : xF} {z : Nat} {m : Nat} {th : Nat} {ch : Nat} {sv : Nat} {rs : Int32} {bm : Nat} {dm : Nat} {lz : Nat} {ty : Nat} {he : Nat} {er : Int32} {ea : Int32} {fa : Int32} {cn : Nat} {g : Nat → Nat} {A : aS} {l0 : Nat → Nat} {v0 : Nat → Nat} {r0 : Nat → Nat} {w0 : Nat → Nat} {b0 : Nat → Nat} (o0 : F (m) = some (.inl (10, [.int (nI (th)), .ref (m + 1), .int (nI (ch)), .int (nI (sv)), .int rs, .ref (m + 2), .ref (m + 3), .ref (m + 4), .ref (m + 5), .ref (m + 6), .int (nI (bm)), .ref (m + 7), .int (nI (dm)), .ref (m + 8), .ref (m + 9), .int (nI (lz)), .ref (m + 10), .int (nI (ty)), .int (nI (he)), .int er, .int ea, .int fa, .ref (m + 11), .int (nI (cn))]))) (ga : F (m + 1) = some (.inr (0, 4730, fun b9 => .int (nI (g b9))))) (h2 : F (m + 2) = some (.inr (0, 8, fun b9 => .int (nI (l0 b9))))) (h3 : F (m + 3) = some (.inr (0, 8, fun b9 => .int (nI (v0 b9))))) (h4 : F (m + 4) = some (.inr (0, 8, fun b9 => .int (nI (r0 b9))))) (h5 : F (m + 5) = some (.inr (0, 8, fun b9 => .int (nI (w0 b9))))) (h6 : F (m + 6) = some (.inr (0, 112, fun b9 => .int (nI (b0 b9))))) (hr : rRow g A) (hA : aInv A) : xM P xy_MessageCoderModel_sends [.ref m] F (z) 0 0 (fun r9 F9 z9 => ∃ g1 : Nat → Nat, ∃ rs1 : Int32, ∃ bm1 : Nat, ∃ l1 : Nat → Nat, ∃ v1 : Nat → Nat, ∃ r1 : Nat → Nat, ∃ w1 : Nat → Nat, ∃ b1 : Nat → Nat, r9 = some (.int (nI (codN (aSe A).1))) ∧ z9 = z ∧ F9 (m) = some (.inl (10, [.int (nI (th)), .ref (m + 1), .int (nI (ch)), .int (nI (sv)), .int rs1, .ref (m + 2), .ref (m + 3), .ref (m + 4), .ref (m + 5), .ref (m + 6), .int (nI (bm1)), .ref (m + 7), .int (nI (dm)), .ref (m + 8), .ref (m + 9), .int (nI (lz)), .ref (m + 10), .int (nI (ty)), .int (nI (he)), .int er, .int ea, .int fa, .ref (m + 11), .int (nI (cn))])) ∧ F9 (m + 1) = some (.inr (0, 4730, fun b9 => .int (nI (g1 b9)))) ∧ F9 (m + 2) = some (.inr (0, 8, fun b9 => .int (nI (l1 b9)))) ∧ F9 (m + 3) = some (.inr (0, 8, fun b9 => .int (nI (v1 b9)))) ∧ F9 (m + 4) = some (.inr (0, 8, fun b9 => .int (nI (r1 b9)))) ∧ F9 (m + 5) = some (.inr (0, 8, fun b9 => .int (nI (w1 b9)))) ∧ F9 (m + 6) = some (.inr (0, 112, fun b9 => .int (nI (b1 b9)))) ∧ (rRow g1 (aSe A).2) ∧ (∀ q, 430 ≤ q → g1 q = g q) ∧ (codN (aSe A).1 = 0 → rs1 = (aSe A).1) ∧ (∀ a9 : Nat, (a9 < m ∨ m + 7 ≤ a9) → F9 a9 = F a9)) := by
  refine xM_i .int rfl (Nat.le_of_ble_eq_true rfl) (L0 := [some (.ref m), none, none, none]) rfl rfl fun Θ hC hret => ?_
  have hag : ∀ a9 : Nat, (a9 < m ∨ m + 7 ≤ a9) → F a9 = F a9 := fun a9 _ => rfl
  obtain ⟨⟨q0, q1, q2, q3, q4, q5, q6, q7, q9⟩, qw, qd, qm, qf, qx, qb⟩ := id hr
  obtain ⟨⟨u1, u2, u3, u4, u5⟩, uw, ud, um, uo, ut, ux, ub, un9⟩ := id hA
  refine x_aload_n hC d_MessageCoderModel_sends_0 rfl rfl ?_
  refine x_iconst hC d_MessageCoderModel_sends_1 (v := nI 0) (by decide) ?_
  refine x_callV hC kv_MessageCoderModel_167 (c_MessageCoderModel_placeAtRank (o0 := o0) (ga := ga) (hr := hr) (hA := hA)) o0 rfl rfl (by decide) rfl rfl rfl (Nat.le_of_ble_eq_true rfl) (by decide) d_MessageCoderModel_sends_2 (fun r9 F9 z9 hp9 => ?_)
  obtain ⟨rfl, h9b, h9c⟩ := hp9
  rw [h9b, h9c]
  clear h9b h9c F9 z9
  refine x_istore_n hC d_MessageCoderModel_sends_5 rfl (Nat.le_of_ble_eq_true rfl) (L1 := [some (.ref m), some (.int (plc (mRk A (nI (0))) A.2.2.1.1)), none, none]) rfl ?_
  refine x_iload_n hC d_MessageCoderModel_sends_6 rfl rfl ?_
  refine x_if_ge hC d_MessageCoderModel_sends_7 (tgt := 12) (by decide) (fun c_7 => ?_) (fun c_7 => ?_)
  · skip
    have hp : mRk A (nI (0)) < A.2.2.1.1 := Decidable.not_not.mp (fun h9 => k2_nlt c_7 ((plc_lt (by omega)).mpr h9))
    rw [plc_of hp]
    refine x_aload_n hC d_MessageCoderModel_sends_12 rfl rfl ?_
    refine x_iload_n hC d_MessageCoderModel_sends_13 rfl rfl ?_
    refine x_callV hC kv_MessageCoderModel_170 (c_MessageCoderModel_bitsOf (o0 := o0) (ga := ga) (h2 := h2) (h3 := h3) (h4 := h4) (h5 := h5) (h6 := h6) (hr := hr) (hA := hA) (hp := hp)) o0 rfl rfl (by decide) rfl rfl rfl (Nat.le_of_ble_eq_true rfl) (by decide) d_MessageCoderModel_sends_14 (fun r9 F9 z9 hp9 => ?_)
    obtain ⟨ln1_14, vl1_14, gr1_14, gw1_14, b1_14, rfl, h9c, j0, j1, j2, j3, j4, j5, j6, pk_14, pkb_14, hag9⟩ := hp9
    rw [h9c]
    clear h9c z9
    generalize F9 = F1 at *
    have o0 : F1 (m) = some (.inl (10, [.int (nI (th)), .ref (m + 1), .int (nI (ch)), .int (nI (sv)), .int rs, .ref (m + 2), .ref (m + 3), .ref (m + 4), .ref (m + 5), .ref (m + 6), .int (nI ((bitsN (hLen A.1) (A.2.2.1.2.2 (mRk A (nI (0)))).2.2.2 (A.2.2.1.2.2 (mRk A (nI (0)))).2.2.1))), .ref (m + 7), .int (nI (dm)), .ref (m + 8), .ref (m + 9), .int (nI (lz)), .ref (m + 10), .int (nI (ty)), .int (nI (he)), .int er, .int ea, .int fa, .ref (m + 11), .int (nI (cn))])) := j0
    have ga : F1 (m + 1) = some (.inr (0, 4730, fun b9 => .int (nI (g b9)))) := j1
    have h2 : F1 (m + 2) = some (.inr (0, 8, fun b9 => .int (nI (ln1_14 b9)))) := j2
    have h3 : F1 (m + 3) = some (.inr (0, 8, fun b9 => .int (nI (vl1_14 b9)))) := j3
    have h4 : F1 (m + 4) = some (.inr (0, 8, fun b9 => .int (nI (gr1_14 b9)))) := j4
    have h5 : F1 (m + 5) = some (.inr (0, 8, fun b9 => .int (nI (gw1_14 b9)))) := j5
    have h6 : F1 (m + 6) = some (.inr (0, 112, fun b9 => .int (nI (b1_14 b9)))) := j6
    have hag : ∀ a9 : Nat, (a9 < m ∨ m + 7 ≤ a9) → F1 a9 = F a9 := fun a9 q0 => (hag9 a9 (by omega) (by omega)).trans (hag a9 q0)
    have hg_14 := hag9
    clear hag9
    obtain ⟨nb, hnb⟩ : ∃ q, q = (bitsN (hLen A.1) (A.2.2.1.2.2 (mRk A (nI (0)))).2.2.2 (A.2.2.1.2.2 (mRk A (nI (0)))).2.2.1) := ⟨_, rfl⟩
    rw [← hnb] at o0 pkb_14
    have hle := (um _ hp).2.2.1
    have hnb9 : nb ≤ 112 := by rw [hnb]; have := bitsN_le (ln := hLen A.1) (fun j hj => hLen_7 A.1 hj) (A.2.2.1.2.2 (mRk A (nI (0)))).2.2.2 (A.2.2.1.2.2 (mRk A (nI (0)))).2.2.1; omega
    have hnk : (nblk A.1 (A.2.2.1.2.2 (mRk A (nI (0))))) ≤ 28 := nblk_le hle
    have hfb : ∀ i, blkN (fourB nb b1_14 0 (4 * i)) = blks A.1 (A.2.2.1.2.2 (mRk A (nI (0)))) i := fun i => congrArg blkN (by rw [fourB_ext pkb_14, hnb])
    refine x_aload_n hC d_MessageCoderModel_sends_17 rfl rfl ?_
    refine x_callV hC kv_MessageCoderModel_173 (c_MessageCoderModel_clearsFrame (o0 := o0) (ga := ga)) o0 rfl rfl (by decide) rfl rfl rfl (Nat.le_of_ble_eq_true rfl) (by decide) d_MessageCoderModel_sends_18 (fun r9 F9 z9 hp9 => ?_)
    obtain ⟨rfl, h9c, j0, j1, hag9⟩ := hp9
    rw [h9c]
    clear h9c z9
    generalize F9 = F2 at *
    have h2 : F2 (m + 2) = some (.inr (0, 8, fun b9 => .int (nI (ln1_14 b9)))) := (hag9 _ (by omega)).trans h2
    have h3 : F2 (m + 3) = some (.inr (0, 8, fun b9 => .int (nI (vl1_14 b9)))) := (hag9 _ (by omega)).trans h3
    have h4 : F2 (m + 4) = some (.inr (0, 8, fun b9 => .int (nI (gr1_14 b9)))) := (hag9 _ (by omega)).trans h4
    have h5 : F2 (m + 5) = some (.inr (0, 8, fun b9 => .int (nI (gw1_14 b9)))) := (hag9 _ (by omega)).trans h5
    have h6 : F2 (m + 6) = some (.inr (0, 112, fun b9 => .int (nI (b1_14 b9)))) := (hag9 _ (by omega)).trans h6
    have o0 : F2 (m) = some (.inl (10, [.int (nI (th)), .ref (m + 1), .int (nI (ch)), .int (nI (sv)), .int rs, .ref (m + 2), .ref (m + 3), .ref (m + 4), .ref (m + 5), .ref (m + 6), .int (nI (nb)), .ref (m + 7), .int (nI (dm)), .ref (m + 8), .ref (m + 9), .int (nI (lz)), .ref (m + 10), .int (nI (ty)), .int (nI (he)), .int er, .int ea, .int fa, .ref (m + 11), .int (nI (cn))])) := j0
    have ga : F2 (m + 1) = some (.inr (0, 4730, fun b9 => .int (nI ((cfG g) b9)))) := j1
    have hag : ∀ a9 : Nat, (a9 < m ∨ m + 7 ≤ a9) → F2 a9 = F a9 := fun a9 q0 => (hag9 a9 (by omega)).trans (hag a9 q0)
    have hg_18 := hag9
    clear hag9
    refine x_aload_n hC d_MessageCoderModel_sends_21 rfl rfl ?_
    refine x_getf hC kf_MessageCoderModel_94 o0 rfl d_MessageCoderModel_sends_22 ?_
    refine x_iconst hC d_MessageCoderModel_sends_25 (v := nI 3) (by decide) ?_
    refine x_iadd hC d_MessageCoderModel_sends_26 (v := (nI (nb + 3))) (x_addN (by omega)) ?_
    refine x_iconst hC d_MessageCoderModel_sends_27 (v := nI 4) (by decide) ?_
    refine x_idiv hC d_MessageCoderModel_sends_28 (x_ne0 (by omega) (by omega)) (v := (nI ((nb + 3) / (4)))) (pk_div (by omega) (by omega) (by omega)) ?_
    refine x_top (v := (nI (nblk A.1 (A.2.2.1.2.2 (mRk A (nI (0))))))) (congrArg nI (by rw [hnb]; rfl)) ?_
    refine x_istore_n hC d_MessageCoderModel_sends_29 rfl (Nat.le_of_ble_eq_true rfl) (L1 := [some (.ref m), some (.int (nI (mRk A (nI (0))))), some (.int (nI (nblk A.1 (A.2.2.1.2.2 (mRk A (nI (0))))))), none]) rfl ?_
    refine x_iconst hC d_MessageCoderModel_sends_30 (v := nI 0) (by decide) ?_
    refine x_istore_n hC d_MessageCoderModel_sends_31 rfl (Nat.le_of_ble_eq_true rfl) (L1 := [some (.ref m), some (.int (nI (mRk A (nI (0))))), some (.int (nI (nblk A.1 (A.2.2.1.2.2 (mRk A (nI (0))))))), some (.int (nI 0))]) rfl ?_
    have loop_32 : ∀ (m9 : Nat) (Fh32 : xF) (i : Nat) (p1 : Nat → Nat), (Fh32 (m) = some (.inl (10, [.int (nI (th)), .ref (m + 1), .int (nI (ch)), .int (nI (sv)), .int rs, .ref (m + 2), .ref (m + 3), .ref (m + 4), .ref (m + 5), .ref (m + 6), .int (nI (nb)), .ref (m + 7), .int (nI (dm)), .ref (m + 8), .ref (m + 9), .int (nI (lz)), .ref (m + 10), .int (nI (ty)), .int (nI (he)), .int er, .int ea, .int fa, .ref (m + 11), .int (nI (cn))]))) → (Fh32 (m + 1) = some (.inr (0, 4730, fun b9 => .int (nI (p1 b9))))) → (Fh32 (m + 2) = some (.inr (0, 8, fun b9 => .int (nI (ln1_14 b9))))) → (Fh32 (m + 3) = some (.inr (0, 8, fun b9 => .int (nI (vl1_14 b9))))) → (Fh32 (m + 4) = some (.inr (0, 8, fun b9 => .int (nI (gr1_14 b9))))) → (Fh32 (m + 5) = some (.inr (0, 8, fun b9 => .int (nI (gw1_14 b9))))) → (Fh32 (m + 6) = some (.inr (0, 112, fun b9 => .int (nI (b1_14 b9))))) → (∀ a9 : Nat, (a9 < m ∨ m + 7 ≤ a9) → Fh32 a9 = F a9) → (i ≤ (nblk A.1 (A.2.2.1.2.2 (mRk A (nI (0)))))) → (∀ j, j < i → ∀ u, u < 7 → p1 (234 + 7 * j + u) = bitP (blks A.1 (A.2.2.1.2.2 (mRk A (nI (0)))) j) (u + 1)) → (∀ q, q < 234 ∨ 430 ≤ q → p1 q = cfG g q) → ((nblk A.1 (A.2.2.1.2.2 (mRk A (nI (0))))) - i < m9) → xX P Θ 32 [some (.ref m), some (.int (nI (mRk A (nI (0))))), some (.int (nI (nblk A.1 (A.2.2.1.2.2 (mRk A (nI (0))))))), some (.int (nI (i)))] [] Fh32 (z) 0 0 := by
      intro m9
      induction m9 with
      | zero => intros; omega
      | succ m9 ih_32 =>
        intro Fh32 i p1 o0 ga h2 h3 h4 h5 h6 hag hi kb ko1 hm_32
        refine x_iload_n hC d_MessageCoderModel_sends_32 rfl rfl ?_
        refine x_iload_n hC d_MessageCoderModel_sends_33 rfl rfl ?_
        refine x_icmpN_ge hC d_MessageCoderModel_sends_34 (tgt := 48) (by decide) (by omega) (by omega) (fun c_34 => ?_) (fun c_34 => ?_)
        · skip
          have ei : i = (nblk A.1 (A.2.2.1.2.2 (mRk A (nI (0))))) := by omega
          refine x_aload_n hC d_MessageCoderModel_sends_48 rfl rfl ?_
          refine x_getf hC kf_MessageCoderModel_9 o0 rfl d_MessageCoderModel_sends_49 ?_
          refine x_bipush hC d_MessageCoderModel_sends_52 (v := nI 7) (by decide) ?_
          refine x_bipush hC d_MessageCoderModel_sends_54 (v := nI 7) (by decide) ?_
          refine x_iload_n hC d_MessageCoderModel_sends_56 rfl rfl ?_
          refine x_imul hC d_MessageCoderModel_sends_57 (v := (nI ((7) * (nblk A.1 (A.2.2.1.2.2 (mRk A (nI (0)))))))) (pk_mul _ _) ?_
          refine x_iast hC ga (j := 7) ⟨rfl, by omega, by omega⟩ d_MessageCoderModel_sends_58 (g1 := fun b9 => nI (updN p1 (7) ((7) * (nblk A.1 (A.2.2.1.2.2 (mRk A (nI (0)))))) b9)) (x_updN _ _ _) ?_
          generalize ega1 : updN p1 (7) ((7) * (nblk A.1 (A.2.2.1.2.2 (mRk A (nI (0)))))) = ga1
          generalize e4 : xup Fh32 (m + 1) (.inr (0, 4730, fun b9 => .int (nI (ga1 b9)))) = F4
          have o0 : F4 (m) = some (.inl (10, [.int (nI (th)), .ref (m + 1), .int (nI (ch)), .int (nI (sv)), .int rs, .ref (m + 2), .ref (m + 3), .ref (m + 4), .ref (m + 5), .ref (m + 6), .int (nI (nb)), .ref (m + 7), .int (nI (dm)), .ref (m + 8), .ref (m + 9), .int (nI (lz)), .ref (m + 10), .int (nI (ty)), .int (nI (he)), .int er, .int ea, .int fa, .ref (m + 11), .int (nI (cn))])) := by rw [← e4]; exact (xup_ne (by omega)).trans o0
          have ga : F4 (m + 1) = some (.inr (0, 4730, fun b9 => .int (nI (ga1 b9)))) := by rw [← e4]; exact xup_eq
          have h2 : F4 (m + 2) = some (.inr (0, 8, fun b9 => .int (nI (ln1_14 b9)))) := by rw [← e4]; exact (xup_ne (by omega)).trans h2
          have h3 : F4 (m + 3) = some (.inr (0, 8, fun b9 => .int (nI (vl1_14 b9)))) := by rw [← e4]; exact (xup_ne (by omega)).trans h3
          have h4 : F4 (m + 4) = some (.inr (0, 8, fun b9 => .int (nI (gr1_14 b9)))) := by rw [← e4]; exact (xup_ne (by omega)).trans h4
          have h5 : F4 (m + 5) = some (.inr (0, 8, fun b9 => .int (nI (gw1_14 b9)))) := by rw [← e4]; exact (xup_ne (by omega)).trans h5
          have h6 : F4 (m + 6) = some (.inr (0, 112, fun b9 => .int (nI (b1_14 b9)))) := by rw [← e4]; exact (xup_ne (by omega)).trans h6
          have hag : ∀ a9 : Nat, (a9 < m ∨ m + 7 ≤ a9) → F4 a9 = F a9 := fun a9 q0 => by rw [← e4]; exact (xup_ne (by omega)).trans (hag a9 q0)
          have hq2 : ∀ q, q < 186 → q ≠ 7 → q ≠ 8 → ga1 q = g q := fun q h1 h2 h3 => by rw [← ega1, updN_ne (by omega), ko1 q (by omega), cfG_o (by omega)]
          refine x_aload_n hC d_MessageCoderModel_sends_59 rfl rfl ?_
          refine x_getf hC kf_MessageCoderModel_9 o0 rfl d_MessageCoderModel_sends_60 ?_
          refine x_bipush hC d_MessageCoderModel_sends_63 (v := nI 8) (by decide) ?_
          refine x_aload_n hC d_MessageCoderModel_sends_65 rfl rfl ?_
          refine x_iload_n hC d_MessageCoderModel_sends_66 rfl rfl ?_
          refine x_iconst hC d_MessageCoderModel_sends_67 (v := nI 2) (by decide) ?_
          refine x_callV hC kv_MessageCoderModel_81 (c_MessageCoderModel_m (o0 := o0) (ga := ga) (hpw := by omega)) o0 rfl rfl (by decide) rfl rfl rfl (Nat.le_of_ble_eq_true rfl) (by decide) d_MessageCoderModel_sends_68 (fun r9 F9 z9 hp9 => ?_)
          obtain ⟨rfl, h9b, h9c⟩ := hp9
          rw [h9b, h9c]
          clear h9b h9c F9 z9
          refine x_top (v := (nI ((A.2.2.1.2.2 (mRk A (nI (0)))).2.2.1))) (congrArg nI ((hq2 _ (by omega) (by omega) (by omega)).trans (qm _ hp).2.2.1)) ?_
          refine x_iast hC ga (j := 8) ⟨rfl, by omega, by omega⟩ d_MessageCoderModel_sends_71 (g1 := fun b9 => nI (updN ga1 (8) ((A.2.2.1.2.2 (mRk A (nI (0)))).2.2.1) b9)) (x_updN _ _ _) ?_
          generalize ega2 : updN ga1 (8) ((A.2.2.1.2.2 (mRk A (nI (0)))).2.2.1) = ga2
          generalize e6 : xup F4 (m + 1) (.inr (0, 4730, fun b9 => .int (nI (ga2 b9)))) = F6
          have o0 : F6 (m) = some (.inl (10, [.int (nI (th)), .ref (m + 1), .int (nI (ch)), .int (nI (sv)), .int rs, .ref (m + 2), .ref (m + 3), .ref (m + 4), .ref (m + 5), .ref (m + 6), .int (nI (nb)), .ref (m + 7), .int (nI (dm)), .ref (m + 8), .ref (m + 9), .int (nI (lz)), .ref (m + 10), .int (nI (ty)), .int (nI (he)), .int er, .int ea, .int fa, .ref (m + 11), .int (nI (cn))])) := by rw [← e6]; exact (xup_ne (by omega)).trans o0
          have ga : F6 (m + 1) = some (.inr (0, 4730, fun b9 => .int (nI (ga2 b9)))) := by rw [← e6]; exact xup_eq
          have h2 : F6 (m + 2) = some (.inr (0, 8, fun b9 => .int (nI (ln1_14 b9)))) := by rw [← e6]; exact (xup_ne (by omega)).trans h2
          have h3 : F6 (m + 3) = some (.inr (0, 8, fun b9 => .int (nI (vl1_14 b9)))) := by rw [← e6]; exact (xup_ne (by omega)).trans h3
          have h4 : F6 (m + 4) = some (.inr (0, 8, fun b9 => .int (nI (gr1_14 b9)))) := by rw [← e6]; exact (xup_ne (by omega)).trans h4
          have h5 : F6 (m + 5) = some (.inr (0, 8, fun b9 => .int (nI (gw1_14 b9)))) := by rw [← e6]; exact (xup_ne (by omega)).trans h5
          have h6 : F6 (m + 6) = some (.inr (0, 112, fun b9 => .int (nI (b1_14 b9)))) := by rw [← e6]; exact (xup_ne (by omega)).trans h6
          have hag : ∀ a9 : Nat, (a9 < m ∨ m + 7 ≤ a9) → F6 a9 = F a9 := fun a9 q0 => by rw [← e6]; exact (xup_ne (by omega)).trans (hag a9 q0)
          refine x_iconst hC d_MessageCoderModel_sends_72 (v := nI 0) (by decide) ?_
          refine x_istore_n hC d_MessageCoderModel_sends_73 rfl (Nat.le_of_ble_eq_true rfl) (L1 := [some (.ref m), some (.int (nI (mRk A (nI (0))))), some (.int (nI (nblk A.1 (A.2.2.1.2.2 (mRk A (nI (0))))))), some (.int (nI 0))]) rfl ?_
          have loop_74 : ∀ (m9 : Nat) (Fh74 : xF) (j1 : Nat) (p2 : Nat → Nat), (Fh74 (m) = some (.inl (10, [.int (nI (th)), .ref (m + 1), .int (nI (ch)), .int (nI (sv)), .int rs, .ref (m + 2), .ref (m + 3), .ref (m + 4), .ref (m + 5), .ref (m + 6), .int (nI (nb)), .ref (m + 7), .int (nI (dm)), .ref (m + 8), .ref (m + 9), .int (nI (lz)), .ref (m + 10), .int (nI (ty)), .int (nI (he)), .int er, .int ea, .int fa, .ref (m + 11), .int (nI (cn))]))) → (Fh74 (m + 1) = some (.inr (0, 4730, fun b9 => .int (nI (p2 b9))))) → (Fh74 (m + 2) = some (.inr (0, 8, fun b9 => .int (nI (ln1_14 b9))))) → (Fh74 (m + 3) = some (.inr (0, 8, fun b9 => .int (nI (vl1_14 b9))))) → (Fh74 (m + 4) = some (.inr (0, 8, fun b9 => .int (nI (gr1_14 b9))))) → (Fh74 (m + 5) = some (.inr (0, 8, fun b9 => .int (nI (gw1_14 b9))))) → (Fh74 (m + 6) = some (.inr (0, 112, fun b9 => .int (nI (b1_14 b9))))) → (∀ a9 : Nat, (a9 < m ∨ m + 7 ≤ a9) → Fh74 a9 = F a9) → (j1 ≤ 16) → (∀ q, ¬ (202 ≤ q ∧ q < 202 + j1) → p2 q = ga2 q) → (∀ j, j < j1 → p2 (202 + j) = g (34 + 19 * (mRk A (nI (0))) + (3 + j))) → (16 - j1 < m9) → xX P Θ 74 [some (.ref m), some (.int (nI (mRk A (nI (0))))), some (.int (nI (nblk A.1 (A.2.2.1.2.2 (mRk A (nI (0))))))), some (.int (nI (j1)))] [] Fh74 (z) 0 0 := by
            intro m9
            induction m9 with
            | zero => intros; omega
            | succ m9 ih_74 =>
              intro Fh74 j1 p2 o0 ga h2 h3 h4 h5 h6 hag hj1 ko2 kt hm_74
              refine x_iload_n hC d_MessageCoderModel_sends_74 rfl rfl ?_
              refine x_bipush hC d_MessageCoderModel_sends_75 (v := nI 16) (by decide) ?_
              refine x_icmpN_ge hC d_MessageCoderModel_sends_77 (tgt := 104) (by decide) (by omega) (by omega) (fun c_77 => ?_) (fun c_77 => ?_)
              · skip
                refine x_iconst hC d_MessageCoderModel_sends_104 (v := nI 0) (by decide) ?_
                refine x_istore_n hC d_MessageCoderModel_sends_105 rfl (Nat.le_of_ble_eq_true rfl) (L1 := [some (.ref m), some (.int (nI (mRk A (nI (0))))), some (.int (nI (nblk A.1 (A.2.2.1.2.2 (mRk A (nI (0))))))), some (.int (nI 0))]) rfl ?_
                have loop_106 : ∀ (m9 : Nat) (Fh106 : xF) (j2 : Nat) (p3 : Nat → Nat), (Fh106 (m) = some (.inl (10, [.int (nI (th)), .ref (m + 1), .int (nI (ch)), .int (nI (sv)), .int rs, .ref (m + 2), .ref (m + 3), .ref (m + 4), .ref (m + 5), .ref (m + 6), .int (nI (nb)), .ref (m + 7), .int (nI (dm)), .ref (m + 8), .ref (m + 9), .int (nI (lz)), .ref (m + 10), .int (nI (ty)), .int (nI (he)), .int er, .int ea, .int fa, .ref (m + 11), .int (nI (cn))]))) → (Fh106 (m + 1) = some (.inr (0, 4730, fun b9 => .int (nI (p3 b9))))) → (Fh106 (m + 2) = some (.inr (0, 8, fun b9 => .int (nI (ln1_14 b9))))) → (Fh106 (m + 3) = some (.inr (0, 8, fun b9 => .int (nI (vl1_14 b9))))) → (Fh106 (m + 4) = some (.inr (0, 8, fun b9 => .int (nI (gr1_14 b9))))) → (Fh106 (m + 5) = some (.inr (0, 8, fun b9 => .int (nI (gw1_14 b9))))) → (Fh106 (m + 6) = some (.inr (0, 112, fun b9 => .int (nI (b1_14 b9))))) → (∀ a9 : Nat, (a9 < m ∨ m + 7 ≤ a9) → Fh106 a9 = F a9) → (j2 ≤ 8) → (∀ q, ¬ (186 ≤ q ∧ q < 202) → p3 q = p2 q) → (∀ j, j < j2 → p3 (186 + j) = hLen A.1 j ∧ p3 (194 + j) = hVal (hLen A.1) j) → (8 - j2 < m9) → xX P Θ 106 [some (.ref m), some (.int (nI (mRk A (nI (0))))), some (.int (nI (nblk A.1 (A.2.2.1.2.2 (mRk A (nI (0))))))), some (.int (nI (j2)))] [] Fh106 (z) 0 0 := by
                  intro m9
                  induction m9 with
                  | zero => intros; omega
                  | succ m9 ih_106 =>
                    intro Fh106 j2 p3 o0 ga h2 h3 h4 h5 h6 hag hj2 ko3 kl hm_106
                    refine x_iload_n hC d_MessageCoderModel_sends_106 rfl rfl ?_
                    refine x_bipush hC d_MessageCoderModel_sends_107 (v := nI 8) (by decide) ?_
                    refine x_icmpN_ge hC d_MessageCoderModel_sends_109 (tgt := 150) (by decide) (by omega) (by omega) (fun c_109 => ?_) (fun c_109 => ?_)
                    · skip
                      have hbase : ∀ q, (q < 186 ∨ (218 ≤ q ∧ q < 234) ∨ 430 ≤ q) ∧ q ≠ 7 ∧ q ≠ 8 → p3 q = g q := fun q hq => by rw [ko3 q (by omega), ko2 q (by omega), ← ega2, updN_ne (by omega), ← ega1, updN_ne (by omega), ko1 q (by omega), cfG_o (by omega)]
                      have hp7 : p3 7 = 7 * (nblk A.1 (A.2.2.1.2.2 (mRk A (nI (0))))) := by rw [ko3 _ (by omega), ko2 _ (by omega), ← ega2, updN_ne (by omega), ← ega1]; exact updN_eq
                      have hp8 : p3 8 = (A.2.2.1.2.2 (mRk A (nI (0)))).2.2.1 := by rw [ko3 _ (by omega), ko2 _ (by omega), ← ega2]; exact updN_eq
                      have hk9 : p3 1 = A.2.2.1.1 := (hbase 1 (by omega)).trans q1
                      refine x_aload_n hC d_MessageCoderModel_sends_150 rfl rfl ?_
                      refine x_iload_n hC d_MessageCoderModel_sends_151 rfl rfl ?_
                      refine x_callV hC kv_MessageCoderModel_145 (c_MessageCoderModel_leaves (o0 := o0) (ga := ga) (hk := hk9) (hp := hp) (hk8 := by omega) (k := A.2.2.1.1)) o0 rfl rfl (by decide) rfl rfl rfl (Nat.le_of_ble_eq_true rfl) (by decide) d_MessageCoderModel_sends_152 (fun r9 F9 z9 hp9 => ?_)
                      obtain ⟨rfl, h9c, j0, j1, hag9⟩ := hp9
                      rw [h9c]
                      clear h9c z9
                      generalize F9 = F7 at *
                      have h2 : F7 (m + 2) = some (.inr (0, 8, fun b9 => .int (nI (ln1_14 b9)))) := (hag9 _ (by omega)).trans h2
                      have h3 : F7 (m + 3) = some (.inr (0, 8, fun b9 => .int (nI (vl1_14 b9)))) := (hag9 _ (by omega)).trans h3
                      have h4 : F7 (m + 4) = some (.inr (0, 8, fun b9 => .int (nI (gr1_14 b9)))) := (hag9 _ (by omega)).trans h4
                      have h5 : F7 (m + 5) = some (.inr (0, 8, fun b9 => .int (nI (gw1_14 b9)))) := (hag9 _ (by omega)).trans h5
                      have h6 : F7 (m + 6) = some (.inr (0, 112, fun b9 => .int (nI (b1_14 b9)))) := (hag9 _ (by omega)).trans h6
                      have o0 : F7 (m) = some (.inl (10, [.int (nI (th)), .ref (m + 1), .int (nI (ch)), .int (nI (sv)), .int rs, .ref (m + 2), .ref (m + 3), .ref (m + 4), .ref (m + 5), .ref (m + 6), .int (nI (nb)), .ref (m + 7), .int (nI (dm)), .ref (m + 8), .ref (m + 9), .int (nI (lz)), .ref (m + 10), .int (nI (ty)), .int (nI (he)), .int er, .int ea, .int fa, .ref (m + 11), .int (nI (cn))])) := j0
                      have ga : F7 (m + 1) = some (.inr (0, 4730, fun b9 => .int (nI ((leG p3 (A.2.2.1.1) (mRk A (nI (0)))) b9)))) := j1
                      have hag : ∀ a9 : Nat, (a9 < m ∨ m + 7 ≤ a9) → F7 a9 = F a9 := fun a9 q0 => (hag9 a9 (by omega)).trans (hag a9 q0)
                      have hg_152 := hag9
                      clear hag9
                      refine x_aload_n hC d_MessageCoderModel_sends_155 rfl rfl ?_
                      refine x_getf hC kf_MessageCoderModel_9 o0 rfl d_MessageCoderModel_sends_156 ?_
                      refine x_iconst hC d_MessageCoderModel_sends_159 (v := nI 3) (by decide) ?_
                      refine x_dup2 hC d_MessageCoderModel_sends_160 rfl rfl ?_
                      refine x_iald hC ga (j := 3) ⟨rfl, by omega, by omega⟩ (x := nI (A.2.2.2.2.2.1)) (congrArg nI ((leG_o hp (by omega)).trans ((hbase 3 (by omega)).trans q3))) d_MessageCoderModel_sends_161 ?_
                      refine x_iconst hC d_MessageCoderModel_sends_162 (v := nI 1) (by decide) ?_
                      refine x_iadd hC d_MessageCoderModel_sends_163 (v := (nI (A.2.2.2.2.2.1 + 1))) (x_addN (by omega)) ?_
                      refine x_iast hC ga (j := 3) ⟨rfl, by omega, by omega⟩ d_MessageCoderModel_sends_164 (g1 := fun b9 => nI (updN ((leG p3 (A.2.2.1.1) (mRk A (nI (0))))) (3) (A.2.2.2.2.2.1 + 1) b9)) (x_updN _ _ _) ?_
                      generalize eg1 : updN ((leG p3 (A.2.2.1.1) (mRk A (nI (0))))) (3) (A.2.2.2.2.2.1 + 1) = g1
                      generalize e9 : xup F7 (m + 1) (.inr (0, 4730, fun b9 => .int (nI (g1 b9)))) = F9
                      have h2 : F9 (m + 2) = some (.inr (0, 8, fun b9 => .int (nI (ln1_14 b9)))) := by rw [← e9]; exact (xup_ne (by omega)).trans h2
                      have h3 : F9 (m + 3) = some (.inr (0, 8, fun b9 => .int (nI (vl1_14 b9)))) := by rw [← e9]; exact (xup_ne (by omega)).trans h3
                      have h4 : F9 (m + 4) = some (.inr (0, 8, fun b9 => .int (nI (gr1_14 b9)))) := by rw [← e9]; exact (xup_ne (by omega)).trans h4
                      have h5 : F9 (m + 5) = some (.inr (0, 8, fun b9 => .int (nI (gw1_14 b9)))) := by rw [← e9]; exact (xup_ne (by omega)).trans h5
                      have h6 : F9 (m + 6) = some (.inr (0, 112, fun b9 => .int (nI (b1_14 b9)))) := by rw [← e9]; exact (xup_ne (by omega)).trans h6
                      have o0 : F9 (m) = some (.inl (10, [.int (nI (th)), .ref (m + 1), .int (nI (ch)), .int (nI (sv)), .int rs, .ref (m + 2), .ref (m + 3), .ref (m + 4), .ref (m + 5), .ref (m + 6), .int (nI (nb)), .ref (m + 7), .int (nI (dm)), .ref (m + 8), .ref (m + 9), .int (nI (lz)), .ref (m + 10), .int (nI (ty)), .int (nI (he)), .int er, .int ea, .int fa, .ref (m + 11), .int (nI (cn))])) := by rw [← e9]; exact (xup_ne (by omega)).trans o0
                      have ga : F9 (m + 1) = some (.inr (0, 4730, fun b9 => .int (nI (g1 b9)))) := by rw [← e9]; exact xup_eq
                      have hag : ∀ a9 : Nat, (a9 < m ∨ m + 7 ≤ a9) → F9 a9 = F a9 := fun a9 q0 => by rw [← e9]; exact (xup_ne (by omega)).trans (hag a9 q0)
                      have hg7 : g1 7 = 7 * (nblk A.1 (A.2.2.1.2.2 (mRk A (nI (0))))) := by rw [← eg1, updN_ne (by omega), leG_o hp (by omega)]; exact hp7
                      refine x_aload_n hC d_MessageCoderModel_sends_165 rfl rfl ?_
                      refine x_aload_n hC d_MessageCoderModel_sends_166 rfl rfl ?_
                      refine x_getf hC kf_MessageCoderModel_9 o0 rfl d_MessageCoderModel_sends_167 ?_
                      refine x_bipush hC d_MessageCoderModel_sends_170 (v := nI 7) (by decide) ?_
                      refine x_iald hC ga (j := 7) ⟨rfl, by omega, by omega⟩ (x := nI ((nblk A.1 (A.2.2.1.2.2 (mRk A (nI (0))))) * 7)) (congrArg nI (hg7.trans (Nat.mul_comm _ _))) d_MessageCoderModel_sends_172 ?_
                      refine x_putf hC kf_MessageCoderModel_61 o0 (Nat.le_of_ble_eq_true rfl) rfl rfl d_MessageCoderModel_sends_173 (fs1 := [.int (nI (th)), .ref (m + 1), .int (nI (ch)), .int (nI (sv)), .int (nI ((nblk A.1 (A.2.2.1.2.2 (mRk A (nI (0))))) * 7)), .ref (m + 2), .ref (m + 3), .ref (m + 4), .ref (m + 5), .ref (m + 6), .int (nI (nb)), .ref (m + 7), .int (nI (dm)), .ref (m + 8), .ref (m + 9), .int (nI (lz)), .ref (m + 10), .int (nI (ty)), .int (nI (he)), .int er, .int ea, .int fa, .ref (m + 11), .int (nI (cn))]) rfl ?_
                      generalize e10 : xup F9 (m) (.inl (10, [.int (nI (th)), .ref (m + 1), .int (nI (ch)), .int (nI (sv)), .int (nI ((nblk A.1 (A.2.2.1.2.2 (mRk A (nI (0))))) * 7)), .ref (m + 2), .ref (m + 3), .ref (m + 4), .ref (m + 5), .ref (m + 6), .int (nI (nb)), .ref (m + 7), .int (nI (dm)), .ref (m + 8), .ref (m + 9), .int (nI (lz)), .ref (m + 10), .int (nI (ty)), .int (nI (he)), .int er, .int ea, .int fa, .ref (m + 11), .int (nI (cn))])) = F10
                      have h2 : F10 (m + 2) = some (.inr (0, 8, fun b9 => .int (nI (ln1_14 b9)))) := by rw [← e10]; exact (xup_ne (by omega)).trans h2
                      have h3 : F10 (m + 3) = some (.inr (0, 8, fun b9 => .int (nI (vl1_14 b9)))) := by rw [← e10]; exact (xup_ne (by omega)).trans h3
                      have h4 : F10 (m + 4) = some (.inr (0, 8, fun b9 => .int (nI (gr1_14 b9)))) := by rw [← e10]; exact (xup_ne (by omega)).trans h4
                      have h5 : F10 (m + 5) = some (.inr (0, 8, fun b9 => .int (nI (gw1_14 b9)))) := by rw [← e10]; exact (xup_ne (by omega)).trans h5
                      have h6 : F10 (m + 6) = some (.inr (0, 112, fun b9 => .int (nI (b1_14 b9)))) := by rw [← e10]; exact (xup_ne (by omega)).trans h6
                      have o0 : F10 (m) = some (.inl (10, [.int (nI (th)), .ref (m + 1), .int (nI (ch)), .int (nI (sv)), .int (nI ((nblk A.1 (A.2.2.1.2.2 (mRk A (nI (0))))) * 7)), .ref (m + 2), .ref (m + 3), .ref (m + 4), .ref (m + 5), .ref (m + 6), .int (nI (nb)), .ref (m + 7), .int (nI (dm)), .ref (m + 8), .ref (m + 9), .int (nI (lz)), .ref (m + 10), .int (nI (ty)), .int (nI (he)), .int er, .int ea, .int fa, .ref (m + 11), .int (nI (cn))])) := by rw [← e10]; exact xup_eq
                      have ga : F10 (m + 1) = some (.inr (0, 4730, fun b9 => .int (nI (g1 b9)))) := by rw [← e10]; exact (xup_ne (by omega)).trans ga
                      have hag : ∀ a9 : Nat, (a9 < m ∨ m + 7 ≤ a9) → F10 a9 = F a9 := fun a9 q0 => by rw [← e10]; exact (xup_ne (by omega)).trans (hag a9 q0)
                      have hgl : ∀ q, q ≠ 3 → q ≠ 1 → q < 430 → g1 q = (leG p3 A.2.2.1.1 (mRk A (nI (0)))) q := fun q h1 _ _ => by rw [← eg1, updN_ne h1]
                      have hf : ∀ q, q ≠ 1 ∧ q ≠ 3 ∧ q ≠ 7 ∧ q ≠ 8 ∧ (q < 34 ∨ (218 ≤ q ∧ q < 234) ∨ 430 ≤ q) → g1 q = g q := fun q hq => by rw [← eg1, updN_ne (by omega), leG_o hp (by omega)]; exact hbase q (by omega)
                      have kr : rRow g1 (aRm (aFr A (A.2.2.1.2.2 (mRk A (nI (0))))) (mRk A (nI (0)))) := ⟨⟨(hf 0 (by omega)).trans q0, by rw [← eg1, updN_ne (by omega)]; exact leG_1 _ _ _, (hf 2 (by omega)).trans q2, by rw [← eg1]; exact updN_eq, (hf 4 (by omega)).trans q4, (hf 5 (by omega)).trans q5, (hf 6 (by omega)).trans q6, by rw [hg7]; exact Nat.mul_comm _ _, (hf 9 (by omega)).trans q9⟩, fun j (hj : j < 8) => (hf _ (by omega)).trans (qw j hj), fun j (hj : j < A.2.1.1) => by rw [hf _ (by omega)]; exact qd j hj, fun i (hi : i < A.2.2.1.1 - 1) => rMsg_ext (um _ (shI_k hp (by omega))).2.2.1 (fun q hq => (hgl _ (by omega) (by omega) (by omega)).trans (leG_ext hp (by omega) (fun q h1 h2 => hbase q (by omega)) _ (by omega) (by omega))) (le_msg hA hr hp hi), fun _ => ⟨(hgl 8 (by omega) (by omega) (by omega)).trans ((leG_o hp (by omega)).trans hp8), fun j hj => ⟨(hgl _ (by omega) (by omega) (by omega)).trans ((leG_o hp (by omega)).trans (kl j (by omega)).1), (hgl _ (by omega) (by omega) (by omega)).trans ((leG_o hp (by omega)).trans (kl j (by omega)).2)⟩, fun j (hj : j < (A.2.2.1.2.2 (mRk A (nI (0)))).2.2.1) => by rw [hgl _ (by omega) (by omega) (by omega), leG_o hp (by omega), ko3 _ (by omega), kt j (by omega)]; exact (qm _ hp).2.2.2 j hj⟩, fun j (hj : j < A.2.2.2.2.1.1) => by rw [hf _ (by omega)]; exact qx j hj, fun b (hb : b < (nblk A.1 (A.2.2.1.2.2 (mRk A (nI (0)))))) p hp9 => by rw [hgl _ (by omega) (by omega) (by omega), leG_o hp (by omega), ko3 _ (by omega), ko2 _ (by omega), ← ega2, updN_ne (by omega), ← ega1, updN_ne (by omega)]; exact kb b (by omega) p hp9⟩
                      have ko : ∀ q, 430 ≤ q → g1 q = g q := fun q hq => hf q (by omega)
                      refine x_iconst hC d_MessageCoderModel_sends_176 (v := nI 0) (by decide) ?_
                      refine hret _ _ _ _ _ _ _ d_MessageCoderModel_sends_177 (by decide) (by decide) rfl ?_
                      have e9 : aSe A = (nI ((nblk A.1 (A.2.2.1.2.2 (mRk A (nI (0))))) * 7), (aRm (aFr A (A.2.2.1.2.2 (mRk A (nI (0))))) (mRk A (nI (0))))) := if_pos hp
                      exact ⟨g1, nI ((nblk A.1 (A.2.2.1.2.2 (mRk A (nI (0))))) * 7), nb, _, _, _, _, _, by rw [e9, codN_n (by omega)], rfl, o0, ga, h2, h3, h4, h5, h6, by rw [e9]; exact kr, ko, fun _ => by rw [e9], hag⟩
                    · skip
                      refine x_aload_n hC d_MessageCoderModel_sends_112 rfl rfl ?_
                      refine x_getf hC kf_MessageCoderModel_9 o0 rfl d_MessageCoderModel_sends_113 ?_
                      refine x_sipush hC d_MessageCoderModel_sends_116 (v := nI 186) (by decide) ?_
                      refine x_iload_n hC d_MessageCoderModel_sends_119 rfl rfl ?_
                      refine x_iadd hC d_MessageCoderModel_sends_120 (v := (nI (186 + j2))) (x_addN (by omega)) ?_
                      refine x_aload_n hC d_MessageCoderModel_sends_121 rfl rfl ?_
                      refine x_getf hC kf_MessageCoderModel_13 o0 rfl d_MessageCoderModel_sends_122 ?_
                      refine x_iload_n hC d_MessageCoderModel_sends_125 rfl rfl ?_
                      refine x_iald hC h2 (j := j2) ⟨rfl, by omega, by omega⟩ (x := nI (hLen A.1 j2)) (congrArg nI ((pk_14 j2 (by omega)).1)) d_MessageCoderModel_sends_126 ?_
                      refine x_iast hC ga (j := 186 + j2) ⟨rfl, by omega, by omega⟩ d_MessageCoderModel_sends_127 (g1 := fun b9 => nI (updN p3 (186 + j2) (hLen A.1 j2) b9)) (x_updN _ _ _) ?_
                      generalize egb1 : updN p3 (186 + j2) (hLen A.1 j2) = gb1
                      generalize e12 : xup Fh106 (m + 1) (.inr (0, 4730, fun b9 => .int (nI (gb1 b9)))) = F12
                      have o0 : F12 (m) = some (.inl (10, [.int (nI (th)), .ref (m + 1), .int (nI (ch)), .int (nI (sv)), .int rs, .ref (m + 2), .ref (m + 3), .ref (m + 4), .ref (m + 5), .ref (m + 6), .int (nI (nb)), .ref (m + 7), .int (nI (dm)), .ref (m + 8), .ref (m + 9), .int (nI (lz)), .ref (m + 10), .int (nI (ty)), .int (nI (he)), .int er, .int ea, .int fa, .ref (m + 11), .int (nI (cn))])) := by rw [← e12]; exact (xup_ne (by omega)).trans o0
                      have ga : F12 (m + 1) = some (.inr (0, 4730, fun b9 => .int (nI (gb1 b9)))) := by rw [← e12]; exact xup_eq
                      have h2 : F12 (m + 2) = some (.inr (0, 8, fun b9 => .int (nI (ln1_14 b9)))) := by rw [← e12]; exact (xup_ne (by omega)).trans h2
                      have h3 : F12 (m + 3) = some (.inr (0, 8, fun b9 => .int (nI (vl1_14 b9)))) := by rw [← e12]; exact (xup_ne (by omega)).trans h3
                      have h4 : F12 (m + 4) = some (.inr (0, 8, fun b9 => .int (nI (gr1_14 b9)))) := by rw [← e12]; exact (xup_ne (by omega)).trans h4
                      have h5 : F12 (m + 5) = some (.inr (0, 8, fun b9 => .int (nI (gw1_14 b9)))) := by rw [← e12]; exact (xup_ne (by omega)).trans h5
                      have h6 : F12 (m + 6) = some (.inr (0, 112, fun b9 => .int (nI (b1_14 b9)))) := by rw [← e12]; exact (xup_ne (by omega)).trans h6
                      have hag : ∀ a9 : Nat, (a9 < m ∨ m + 7 ≤ a9) → F12 a9 = F a9 := fun a9 q0 => by rw [← e12]; exact (xup_ne (by omega)).trans (hag a9 q0)
                      refine x_aload_n hC d_MessageCoderModel_sends_128 rfl rfl ?_
                      refine x_getf hC kf_MessageCoderModel_9 o0 rfl d_MessageCoderModel_sends_129 ?_
                      refine x_sipush hC d_MessageCoderModel_sends_132 (v := nI 194) (by decide) ?_
                      refine x_iload_n hC d_MessageCoderModel_sends_135 rfl rfl ?_
                      refine x_iadd hC d_MessageCoderModel_sends_136 (v := (nI (194 + j2))) (x_addN (by omega)) ?_
                      refine x_aload_n hC d_MessageCoderModel_sends_137 rfl rfl ?_
                      refine x_getf hC kf_MessageCoderModel_16 o0 rfl d_MessageCoderModel_sends_138 ?_
                      refine x_iload_n hC d_MessageCoderModel_sends_141 rfl rfl ?_
                      refine x_iald hC h3 (j := j2) ⟨rfl, by omega, by omega⟩ (x := nI (hVal (hLen A.1) j2)) (congrArg nI ((pk_14 j2 (by omega)).2)) d_MessageCoderModel_sends_142 ?_
                      refine x_iast hC ga (j := 194 + j2) ⟨rfl, by omega, by omega⟩ d_MessageCoderModel_sends_143 (g1 := fun b9 => nI (updN gb1 (194 + j2) (hVal (hLen A.1) j2) b9)) (x_updN _ _ _) ?_
                      generalize egb2 : updN gb1 (194 + j2) (hVal (hLen A.1) j2) = gb2
                      generalize e14 : xup F12 (m + 1) (.inr (0, 4730, fun b9 => .int (nI (gb2 b9)))) = F14
                      have o0 : F14 (m) = some (.inl (10, [.int (nI (th)), .ref (m + 1), .int (nI (ch)), .int (nI (sv)), .int rs, .ref (m + 2), .ref (m + 3), .ref (m + 4), .ref (m + 5), .ref (m + 6), .int (nI (nb)), .ref (m + 7), .int (nI (dm)), .ref (m + 8), .ref (m + 9), .int (nI (lz)), .ref (m + 10), .int (nI (ty)), .int (nI (he)), .int er, .int ea, .int fa, .ref (m + 11), .int (nI (cn))])) := by rw [← e14]; exact (xup_ne (by omega)).trans o0
                      have ga : F14 (m + 1) = some (.inr (0, 4730, fun b9 => .int (nI (gb2 b9)))) := by rw [← e14]; exact xup_eq
                      have h2 : F14 (m + 2) = some (.inr (0, 8, fun b9 => .int (nI (ln1_14 b9)))) := by rw [← e14]; exact (xup_ne (by omega)).trans h2
                      have h3 : F14 (m + 3) = some (.inr (0, 8, fun b9 => .int (nI (vl1_14 b9)))) := by rw [← e14]; exact (xup_ne (by omega)).trans h3
                      have h4 : F14 (m + 4) = some (.inr (0, 8, fun b9 => .int (nI (gr1_14 b9)))) := by rw [← e14]; exact (xup_ne (by omega)).trans h4
                      have h5 : F14 (m + 5) = some (.inr (0, 8, fun b9 => .int (nI (gw1_14 b9)))) := by rw [← e14]; exact (xup_ne (by omega)).trans h5
                      have h6 : F14 (m + 6) = some (.inr (0, 112, fun b9 => .int (nI (b1_14 b9)))) := by rw [← e14]; exact (xup_ne (by omega)).trans h6
                      have hag : ∀ a9 : Nat, (a9 < m ∨ m + 7 ≤ a9) → F14 a9 = F a9 := fun a9 q0 => by rw [← e14]; exact (xup_ne (by omega)).trans (hag a9 q0)
                      refine x_iinc hC d_MessageCoderModel_sends_144 rfl (v := (nI (j2 + 1))) (x_incN 1) (Nat.le_of_ble_eq_true rfl) (L1 := [some (.ref m), some (.int (nI (mRk A (nI (0))))), some (.int (nI (nblk A.1 (A.2.2.1.2.2 (mRk A (nI (0))))))), some (.int (nI (j2 + 1)))]) rfl ?_
                      refine x_goto hC d_MessageCoderModel_sends_147 (tgt := 106) (by decide) ?_
                      exact ih_106 F14 (j2 + 1) (gb2) o0 ga h2 h3 h4 h5 h6 hag (by omega) (fun q hq => by rw [← egb2, updN_ne (by omega), ← egb1, updN_ne (by omega)]; exact ko3 q (by omega)) (fun j hj => (Nat.lt_or_ge j j2).elim (fun q => by rw [← egb2, updN_ne (by omega), updN_ne (by omega), ← egb1, updN_ne (by omega), updN_ne (by omega)]; exact kl j q) (fun q => ⟨by rw [← egb2, updN_ne (by omega), ← egb1, updN_at (by omega), show j = j2 by omega], by rw [← egb2, updN_at (by omega), show j = j2 by omega]⟩)) (by omega)
                exact loop_106 (8 - 0 + 1) Fh74 (0) (p2) o0 ga h2 h3 h4 h5 h6 hag (by omega) (fun _ _ => rfl) (fun j hj => absurd hj (by omega)) (by omega)
              · skip
                refine x_aload_n hC d_MessageCoderModel_sends_80 rfl rfl ?_
                refine x_getf hC kf_MessageCoderModel_9 o0 rfl d_MessageCoderModel_sends_81 ?_
                refine x_sipush hC d_MessageCoderModel_sends_84 (v := nI 202) (by decide) ?_
                refine x_iload_n hC d_MessageCoderModel_sends_87 rfl rfl ?_
                refine x_iadd hC d_MessageCoderModel_sends_88 (v := (nI (202 + j1))) (x_addN (by omega)) ?_
                refine x_aload_n hC d_MessageCoderModel_sends_89 rfl rfl ?_
                refine x_iload_n hC d_MessageCoderModel_sends_90 rfl rfl ?_
                refine x_iconst hC d_MessageCoderModel_sends_91 (v := nI 3) (by decide) ?_
                refine x_iload_n hC d_MessageCoderModel_sends_92 rfl rfl ?_
                refine x_iadd hC d_MessageCoderModel_sends_93 (v := (nI (3 + j1))) (x_addN (by omega)) ?_
                refine x_callV hC kv_MessageCoderModel_81 (c_MessageCoderModel_m (o0 := o0) (ga := ga) (hpw := by omega)) o0 rfl rfl (by decide) rfl rfl rfl (Nat.le_of_ble_eq_true rfl) (by decide) d_MessageCoderModel_sends_94 (fun r9 F9 z9 hp9 => ?_)
                obtain ⟨rfl, h9b, h9c⟩ := hp9
                rw [h9b, h9c]
                clear h9b h9c F9 z9
                refine x_iast hC ga (j := 202 + j1) ⟨rfl, by omega, by omega⟩ d_MessageCoderModel_sends_97 (g1 := fun b9 => nI (updN p2 (202 + j1) (p2 (34 + 19 * (mRk A (nI (0))) + (3 + j1))) b9)) (x_updN _ _ _) ?_
                generalize ega3 : updN p2 (202 + j1) (p2 (34 + 19 * (mRk A (nI (0))) + (3 + j1))) = ga3
                generalize e16 : xup Fh74 (m + 1) (.inr (0, 4730, fun b9 => .int (nI (ga3 b9)))) = F16
                have o0 : F16 (m) = some (.inl (10, [.int (nI (th)), .ref (m + 1), .int (nI (ch)), .int (nI (sv)), .int rs, .ref (m + 2), .ref (m + 3), .ref (m + 4), .ref (m + 5), .ref (m + 6), .int (nI (nb)), .ref (m + 7), .int (nI (dm)), .ref (m + 8), .ref (m + 9), .int (nI (lz)), .ref (m + 10), .int (nI (ty)), .int (nI (he)), .int er, .int ea, .int fa, .ref (m + 11), .int (nI (cn))])) := by rw [← e16]; exact (xup_ne (by omega)).trans o0
                have ga : F16 (m + 1) = some (.inr (0, 4730, fun b9 => .int (nI (ga3 b9)))) := by rw [← e16]; exact xup_eq
                have h2 : F16 (m + 2) = some (.inr (0, 8, fun b9 => .int (nI (ln1_14 b9)))) := by rw [← e16]; exact (xup_ne (by omega)).trans h2
                have h3 : F16 (m + 3) = some (.inr (0, 8, fun b9 => .int (nI (vl1_14 b9)))) := by rw [← e16]; exact (xup_ne (by omega)).trans h3
                have h4 : F16 (m + 4) = some (.inr (0, 8, fun b9 => .int (nI (gr1_14 b9)))) := by rw [← e16]; exact (xup_ne (by omega)).trans h4
                have h5 : F16 (m + 5) = some (.inr (0, 8, fun b9 => .int (nI (gw1_14 b9)))) := by rw [← e16]; exact (xup_ne (by omega)).trans h5
                have h6 : F16 (m + 6) = some (.inr (0, 112, fun b9 => .int (nI (b1_14 b9)))) := by rw [← e16]; exact (xup_ne (by omega)).trans h6
                have hag : ∀ a9 : Nat, (a9 < m ∨ m + 7 ≤ a9) → F16 a9 = F a9 := fun a9 q0 => by rw [← e16]; exact (xup_ne (by omega)).trans (hag a9 q0)
                refine x_iinc hC d_MessageCoderModel_sends_98 rfl (v := (nI (j1 + 1))) (x_incN 1) (Nat.le_of_ble_eq_true rfl) (L1 := [some (.ref m), some (.int (nI (mRk A (nI (0))))), some (.int (nI (nblk A.1 (A.2.2.1.2.2 (mRk A (nI (0))))))), some (.int (nI (j1 + 1)))]) rfl ?_
                refine x_goto hC d_MessageCoderModel_sends_101 (tgt := 74) (by decide) ?_
                exact ih_74 F16 (j1 + 1) (ga3) o0 ga h2 h3 h4 h5 h6 hag (by omega) (fun q hq => by rw [← ega3, updN_ne (by omega)]; exact ko2 q (by omega)) (fun j hj => (Nat.lt_or_ge j j1).elim (fun q => by rw [← ega3, updN_ne (by omega)]; exact kt j q) (fun q => by rw [← ega3, updN_at (by omega), show j = j1 by omega, ko2 _ (by omega), ← ega2, updN_ne (by omega)]; exact hq2 _ (by omega) (by omega) (by omega))) (by omega)
          exact loop_74 (16 - 0 + 1) F6 (0) (ga2) o0 ga h2 h3 h4 h5 h6 hag (by omega) (fun _ _ => rfl) (fun j hj => absurd hj (by omega)) (by omega)
        · skip
          refine x_aload_n hC d_MessageCoderModel_sends_37 rfl rfl ?_
          refine x_iload_n hC d_MessageCoderModel_sends_38 rfl rfl ?_
          refine x_callV hC kv_MessageCoderModel_176 (c_MessageCoderModel_frames (o0 := o0) (ga := ga) (h6 := h6) (hb := by omega) (hbm := hnb9) (hb1 := fun j hj => by rw [pkb_14 j (by omega)]; exact splB_le _ _ _ _ j)) o0 rfl rfl (by decide) rfl rfl rfl (Nat.le_of_ble_eq_true rfl) (by decide) d_MessageCoderModel_sends_39 (fun r9 F9 z9 hp9 => ?_)
          obtain ⟨g1_39, rfl, h9c, j0, j1, j2, pk_39, po_39, hag9⟩ := hp9
          rw [h9c]
          clear h9c z9
          generalize F9 = F17 at *
          have h2 : F17 (m + 2) = some (.inr (0, 8, fun b9 => .int (nI (ln1_14 b9)))) := (hag9 _ (by omega)).trans h2
          have h3 : F17 (m + 3) = some (.inr (0, 8, fun b9 => .int (nI (vl1_14 b9)))) := (hag9 _ (by omega)).trans h3
          have h4 : F17 (m + 4) = some (.inr (0, 8, fun b9 => .int (nI (gr1_14 b9)))) := (hag9 _ (by omega)).trans h4
          have h5 : F17 (m + 5) = some (.inr (0, 8, fun b9 => .int (nI (gw1_14 b9)))) := (hag9 _ (by omega)).trans h5
          have o0 : F17 (m) = some (.inl (10, [.int (nI (th)), .ref (m + 1), .int (nI (ch)), .int (nI (sv)), .int rs, .ref (m + 2), .ref (m + 3), .ref (m + 4), .ref (m + 5), .ref (m + 6), .int (nI (nb)), .ref (m + 7), .int (nI (dm)), .ref (m + 8), .ref (m + 9), .int (nI (lz)), .ref (m + 10), .int (nI (ty)), .int (nI (he)), .int er, .int ea, .int fa, .ref (m + 11), .int (nI (cn))])) := j0
          have ga : F17 (m + 1) = some (.inr (0, 4730, fun b9 => .int (nI (g1_39 b9)))) := j1
          have h6 : F17 (m + 6) = some (.inr (0, 112, fun b9 => .int (nI (b1_14 b9)))) := j2
          have hag : ∀ a9 : Nat, (a9 < m ∨ m + 7 ≤ a9) → F17 a9 = F a9 := fun a9 q0 => (hag9 a9 (by omega)).trans (hag a9 q0)
          have hg_39 := hag9
          clear hag9
          refine x_iinc hC d_MessageCoderModel_sends_42 rfl (v := (nI (i + 1))) (x_incN 1) (Nat.le_of_ble_eq_true rfl) (L1 := [some (.ref m), some (.int (nI (mRk A (nI (0))))), some (.int (nI (nblk A.1 (A.2.2.1.2.2 (mRk A (nI (0))))))), some (.int (nI (i + 1)))]) rfl ?_
          refine x_goto hC d_MessageCoderModel_sends_45 (tgt := 32) (by decide) ?_
          exact ih_32 F17 (i + 1) (g1_39) o0 ga h2 h3 h4 h5 h6 hag (by omega) (fun j hj u hu => (Nat.lt_or_ge j i).elim (fun q => by rw [po_39 _ (by omega)]; exact kb j q u hu) (fun q => by rw [show j = i by omega, pk_39 u hu, hfb])) (fun q hq => (po_39 q (by omega)).trans (ko1 q hq)) (by omega)
    exact loop_32 ((nblk A.1 (A.2.2.1.2.2 (mRk A (nI (0))))) - 0 + 1) F2 (0) ((cfG g)) o0 ga h2 h3 h4 h5 h6 hag (by omega) (fun j hj => absurd hj (by omega)) (fun _ _ => rfl) (by omega)
  · skip
    refine x_iconst hC d_MessageCoderModel_sends_10 (v := nI 3) (by decide) ?_
    refine hret _ _ _ _ _ _ _ d_MessageCoderModel_sends_11 (by decide) (by decide) rfl ?_
    have e9 : aSe A = (-3, A) := if_neg (fun h9 => c_7 (by rw [plc_of h9]; exact nI_pos' (by omega)))
    exact ⟨g, rs, bm, l0, v0, r0, w0, b0, by rw [e9]; rfl, rfl, o0, ga, h2, h3, h4, h5, h6, by rw [e9]; exact hr, fun _ _ => rfl, fun h9 => absurd h9 (by rw [e9]; show ¬ codN (-3) = 0; decide), hag⟩

