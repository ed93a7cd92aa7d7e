/-! the reference: checksums, common symbols, frame, totals -/

theorem d_MessageCoderModel_checksum_0 : decode prog_14_method_77_code 0 = .ok (.aload_n 0, 1) := by decide +kernel
theorem d_MessageCoderModel_checksum_1 : decode prog_14_method_77_code 1 = .ok (.iload_n 1, 1) := by decide +kernel
theorem d_MessageCoderModel_checksum_2 : decode prog_14_method_77_code 2 = .ok (.invokevirtual 208, 3) := by decide +kernel
theorem d_MessageCoderModel_checksum_5 : decode prog_14_method_77_code 5 = .ok (.istore_n 2, 1) := by decide +kernel
theorem d_MessageCoderModel_checksum_6 : decode prog_14_method_77_code 6 = .ok (.iconst 0, 1) := by decide +kernel
theorem d_MessageCoderModel_checksum_7 : decode prog_14_method_77_code 7 = .ok (.istore_n 3, 1) := by decide +kernel
theorem d_MessageCoderModel_checksum_8 : decode prog_14_method_77_code 8 = .ok (.iconst 0, 1) := by decide +kernel
theorem d_MessageCoderModel_checksum_9 : decode prog_14_method_77_code 9 = .ok (.istore 4, 2) := by decide +kernel
theorem d_MessageCoderModel_checksum_11 : decode prog_14_method_77_code 11 = .ok (.iload 4, 2) := by decide +kernel
theorem d_MessageCoderModel_checksum_13 : decode prog_14_method_77_code 13 = .ok (.iload_n 2, 1) := by decide +kernel
theorem d_MessageCoderModel_checksum_14 : decode prog_14_method_77_code 14 = .ok (.iconst 4, 1) := by decide +kernel
theorem d_MessageCoderModel_checksum_15 : decode prog_14_method_77_code 15 = .ok (.iadd, 1) := by decide +kernel
theorem d_MessageCoderModel_checksum_16 : decode prog_14_method_77_code 16 = .ok (.if_icmp .ge 42, 3) := by decide +kernel
theorem d_MessageCoderModel_checksum_19 : decode prog_14_method_77_code 19 = .ok (.aload_n 0, 1) := by decide +kernel
theorem d_MessageCoderModel_checksum_20 : decode prog_14_method_77_code 20 = .ok (.getfield 51, 3) := by decide +kernel
theorem d_MessageCoderModel_checksum_23 : decode prog_14_method_77_code 23 = .ok (.ifCond .ne 35, 3) := by decide +kernel
theorem d_MessageCoderModel_checksum_26 : decode prog_14_method_77_code 26 = .ok (.iconst 2, 1) := by decide +kernel
theorem d_MessageCoderModel_checksum_27 : decode prog_14_method_77_code 27 = .ok (.iload_n 3, 1) := by decide +kernel
theorem d_MessageCoderModel_checksum_28 : decode prog_14_method_77_code 28 = .ok (.imul, 1) := by decide +kernel
theorem d_MessageCoderModel_checksum_29 : decode prog_14_method_77_code 29 = .ok (.aload_n 0, 1) := by decide +kernel
theorem d_MessageCoderModel_checksum_30 : decode prog_14_method_77_code 30 = .ok (.iload 4, 2) := by decide +kernel
theorem d_MessageCoderModel_checksum_32 : decode prog_14_method_77_code 32 = .ok (.invokevirtual 164, 3) := by decide +kernel
theorem d_MessageCoderModel_checksum_35 : decode prog_14_method_77_code 35 = .ok (.iadd, 1) := by decide +kernel
theorem d_MessageCoderModel_checksum_36 : decode prog_14_method_77_code 36 = .ok (.istore_n 3, 1) := by decide +kernel
theorem d_MessageCoderModel_checksum_37 : decode prog_14_method_77_code 37 = .ok (.iload_n 3, 1) := by decide +kernel
theorem d_MessageCoderModel_checksum_38 : decode prog_14_method_77_code 38 = .ok (.bipush 15, 2) := by decide +kernel
theorem d_MessageCoderModel_checksum_40 : decode prog_14_method_77_code 40 = .ok (.if_icmp .le 10, 3) := by decide +kernel
theorem d_MessageCoderModel_checksum_43 : decode prog_14_method_77_code 43 = .ok (.iload_n 3, 1) := by decide +kernel
theorem d_MessageCoderModel_checksum_44 : decode prog_14_method_77_code 44 = .ok (.bipush 19, 2) := by decide +kernel
theorem d_MessageCoderModel_checksum_46 : decode prog_14_method_77_code 46 = .ok (.ixor, 1) := by decide +kernel
theorem d_MessageCoderModel_checksum_47 : decode prog_14_method_77_code 47 = .ok (.goto 4, 3) := by decide +kernel
theorem d_MessageCoderModel_checksum_50 : decode prog_14_method_77_code 50 = .ok (.iload_n 3, 1) := by decide +kernel
theorem d_MessageCoderModel_checksum_51 : decode prog_14_method_77_code 51 = .ok (.istore_n 3, 1) := by decide +kernel
theorem d_MessageCoderModel_checksum_52 : decode prog_14_method_77_code 52 = .ok (.iinc 4 1, 3) := by decide +kernel
theorem d_MessageCoderModel_checksum_55 : decode prog_14_method_77_code 55 = .ok (.goto (-44), 3) := by decide +kernel
theorem d_MessageCoderModel_checksum_58 : decode prog_14_method_77_code 58 = .ok (.iload_n 3, 1) := by decide +kernel
theorem d_MessageCoderModel_checksum_59 : decode prog_14_method_77_code 59 = .ok (.ireturn, 1) := by decide +kernel
set_option maxHeartbeats 4000000 in
set_option maxRecDepth 20000 in
theorem c_MessageCoderModel_checksum {P : xP} {F : xF} {z : Nat} {m : Nat} {th0 : Nat} {M : mcS} {a : Int32} (hD : xMD F (m) (th0) (M)) (hI : mInv M) : xM P xy_MessageCoderModel_checksum [.ref m, .int a] F (z) 0 0 (fun r9 F9 z9 => r9 = some (.int (nI (if mOk M.1 a then crcB (bitsN (hLen M.1.1) (mAt M.1 a).2.2.2 (mAt M.1 a).2.2.1) (splB (hLen M.1.1) (hVal (hLen M.1.1)) (mAt M.1 a).2.2.2 (mAt M.1 a).2.2.1) (bitsN (hLen M.1.1) (mAt M.1 a).2.2.2 (mAt M.1 a).2.2.1 + 4) else 0))) ∧ z9 = z ∧ xMD F9 (m) ((if mOk M.1 a then 0 else 1)) (M) ∧ (∀ a9 : Nat, (a9 < m ∨ m + 12 ≤ a9) → F9 a9 = F a9)) := by
  refine xM_i .int rfl (Nat.le_of_ble_eq_true rfl) (L0 := [some (.ref m), some (.int a), none, none, none]) rfl rfl fun Θ hC hret => ?_
  have hag : ∀ a9 : Nat, (a9 < m ∨ m + 12 ≤ a9) → F a9 = F a9 := fun a9 _ => rfl
  obtain ⟨A, S, past, ⟨pn, psg⟩, ⟨lnn, lsg⟩, sv, pp, un, ep, fc⟩ := M
  obtain ⟨rs, er, bm, dm, he, cn, g, l2, v3, r4, w5, b6, d7, b8, ln, ip, cs, o0, ga, h2, h3, h4, h5, h6, h7, h8, h9, hi, hcm, hg, hln, hip⟩ := id hD
  obtain ⟨iA, iP, iS, hu8, hup, hs1, hty, hlz, hic, hlc⟩ := id hI
  have o0 : F (m) = some (.inl (10, [.int (nI (th0)), .ref (m + 1), .int (nI (un)), .int (nI (sv)), .int rs, .ref (m + 2), .ref (m + 3), .ref (m + 4), .ref (m + 5), .ref (m + 6), .int (nI (bm)), .ref (m + 7), .int (nI (dm)), .ref (m + 8), .ref (m + 9), .int (nI (lnn)), .ref (m + 10), .int (nI (pn)), .int (nI (he)), .int er, .int ep, .int fc, .ref (m + 11), .int (nI (cn))])) := o0
  have ga : F (m + 1) = some (.inr (0, 4730, fun b9 => .int (nI (g b9)))) := ga
  have h2 : F (m + 2) = some (.inr (0, 8, fun b9 => .int (nI (l2 b9)))) := h2
  have h3 : F (m + 3) = some (.inr (0, 8, fun b9 => .int (nI (v3 b9)))) := h3
  have h4 : F (m + 4) = some (.inr (0, 8, fun b9 => .int (nI (r4 b9)))) := h4
  have h5 : F (m + 5) = some (.inr (0, 8, fun b9 => .int (nI (w5 b9)))) := h5
  have h6 : F (m + 6) = some (.inr (0, 112, fun b9 => .int (nI (b6 b9)))) := h6
  have h7 : F (m + 7) = some (.inr (0, 16, fun b9 => .int (nI (d7 b9)))) := h7
  have h8 : F (m + 8) = some (.inr (0, 17, fun b9 => .int (nI (b8 b9)))) := h8
  have h9 : F (m + 9) = some (.inr (1, 40, fun b9 => .int (nI (ln b9)))) := h9
  have hi : F (m + 10) = some (.inr (1, 60, fun b9 => .int (nI (ip b9)))) := hi
  have hcm : F (m + 11) = some (.inr (0, 183, fun b9 => .int (nI (cs b9)))) := hcm
  have hln : ∀ j, j < lnn → ln j = lsg j := hln
  have hip : ∀ j, j < pn → ip j = psg j := hip
  have iA : aInv A := iA
  have hu8 : un ≤ 8 := hu8
  have hup : un ≤ pp := hup
  have hs1 : sv ≤ 1 := hs1
  have hty : pn ≤ 60 := hty
  have hlz : lnn ≤ 32 := hlz
  have hr : rRow g A := hg.1
  have hA : aInv A := iA
  obtain ⟨⟨q0, q1, q2, q3, q4, q5, q6, q7, q9⟩, qw, qd, qm, qf, qx, qb⟩ := id hr
  obtain ⟨⟨u1, u2, u3, u4, u5⟩, uw, ud, um, uo, ut, ux, ub, un9⟩ := id hA
  refine x_aload_n hC d_MessageCoderModel_checksum_0 rfl rfl ?_
  refine x_iload_n hC d_MessageCoderModel_checksum_1 rfl rfl ?_
  refine x_callV hC kv_MessageCoderModel_208 (c_MessageCoderModel_bitCountR (o0 := o0) (ga := ga) (h2 := h2) (h3 := h3) (h4 := h4) (h5 := h5) (h6 := h6) (hr := hr) (hA := hA)) o0 rfl rfl (by decide) rfl rfl rfl (Nat.le_of_ble_eq_true rfl) (by decide) d_MessageCoderModel_checksum_2 (fun r9 F9 z9 hp9 => ?_)
  obtain ⟨bm1_2, l1_2, v1_2, r1_2, w1_2, b1_2, rfl, h9c, j0, j1, j2, j3, j4, j5, j6, pb_2, hag9⟩ := hp9
  rw [h9c]
  clear h9c z9
  generalize F9 = F1 at *
  have h7 : F1 (m + 7) = some (.inr (0, 16, fun b9 => .int (nI (d7 b9)))) := (hag9 _ (by omega)).trans h7
  have h8 : F1 (m + 8) = some (.inr (0, 17, fun b9 => .int (nI (b8 b9)))) := (hag9 _ (by omega)).trans h8
  have h9 : F1 (m + 9) = some (.inr (1, 40, fun b9 => .int (nI (ln b9)))) := (hag9 _ (by omega)).trans h9
  have hi : F1 (m + 10) = some (.inr (1, 60, fun b9 => .int (nI (ip b9)))) := (hag9 _ (by omega)).trans hi
  have hcm : F1 (m + 11) = some (.inr (0, 183, fun b9 => .int (nI (cs b9)))) := (hag9 _ (by omega)).trans hcm
  have o0 : F1 (m) = some (.inl (10, [.int (nI ((if mOk A a then 0 else 1))), .ref (m + 1), .int (nI (un)), .int (nI (sv)), .int rs, .ref (m + 2), .ref (m + 3), .ref (m + 4), .ref (m + 5), .ref (m + 6), .int (nI (bm1_2)), .ref (m + 7), .int (nI (dm)), .ref (m + 8), .ref (m + 9), .int (nI (lnn)), .ref (m + 10), .int (nI (pn)), .int (nI (he)), .int er, .int ep, .int fc, .ref (m + 11), .int (nI (cn))])) := j0
  have ga : F1 (m + 1) = some (.inr (0, 4730, fun b9 => .int (nI (g b9)))) := j1
  have h2 : F1 (m + 2) = some (.inr (0, 8, fun b9 => .int (nI (l1_2 b9)))) := j2
  have h3 : F1 (m + 3) = some (.inr (0, 8, fun b9 => .int (nI (v1_2 b9)))) := j3
  have h4 : F1 (m + 4) = some (.inr (0, 8, fun b9 => .int (nI (r1_2 b9)))) := j4
  have h5 : F1 (m + 5) = some (.inr (0, 8, fun b9 => .int (nI (w1_2 b9)))) := j5
  have h6 : F1 (m + 6) = some (.inr (0, 112, fun b9 => .int (nI (b1_2 b9)))) := j6
  have hag : ∀ a9 : Nat, (a9 < m ∨ m + 12 ≤ a9) → F1 a9 = F a9 := fun a9 q0 => (hag9 a9 (by omega)).trans (hag a9 q0)
  have hg_2 := hag9
  clear hag9
  refine x_istore_n hC d_MessageCoderModel_checksum_5 rfl (Nat.le_of_ble_eq_true rfl) (L1 := [some (.ref m), some (.int a), some (.int (nI (if mOk A a then bitsN (hLen A.1) (A.2.2.1.2.2 (mIx A a)).2.2.2 (A.2.2.1.2.2 (mIx A a)).2.2.1 else 0))), none, none]) rfl ?_
  have hz0 : mOk A a → (bitsN (hLen A.1) (A.2.2.1.2.2 (mIx A a)).2.2.2 (A.2.2.1.2.2 (mIx A a)).2.2.1) ≤ 112 ∧ bm1_2 = bitsN (hLen A.1) (A.2.2.1.2.2 (mIx A a)).2.2.2 (A.2.2.1.2.2 (mIx A a)).2.2.1 ∧ ∀ j, j < bm1_2 → b1_2 j = splB (hLen A.1) (hVal (hLen A.1)) (A.2.2.1.2.2 (mIx A a)).2.2.2 (A.2.2.1.2.2 (mIx A a)).2.2.1 j := fun h9 => ⟨by have hla := (um _ h9).2.2.1; have := bitsN_le (ln := hLen A.1) (fun j hj => hLen_7 A.1 hj) (A.2.2.1.2.2 (mIx A a)).2.2.2 (A.2.2.1.2.2 (mIx A a)).2.2.1; omega, pb_2 h9⟩
  obtain ⟨nb, hnb⟩ : ∃ q, q = (if mOk A a then bitsN (hLen A.1) (A.2.2.1.2.2 (mIx A a)).2.2.2 (A.2.2.1.2.2 (mIx A a)).2.2.1 else 0) := ⟨_, rfl⟩
  rw [← hnb]
  have hnb9 : nb ≤ 112 := by rw [hnb]; split; (rename_i h9; exact (hz0 h9).1); omega
  refine x_iconst hC d_MessageCoderModel_checksum_6 (v := nI 0) (by decide) ?_
  refine x_istore_n hC d_MessageCoderModel_checksum_7 rfl (Nat.le_of_ble_eq_true rfl) (L1 := [some (.ref m), some (.int a), some (.int (nI (nb))), some (.int (nI 0)), none]) rfl ?_
  refine x_iconst hC d_MessageCoderModel_checksum_8 (v := nI 0) (by decide) ?_
  refine x_istore hC d_MessageCoderModel_checksum_9 (Nat.le_of_ble_eq_true rfl) (L1 := [some (.ref m), some (.int a), some (.int (nI (nb))), some (.int (nI 0)), some (.int (nI 0))]) rfl ?_
  have loop_11 : ∀ (m9 : Nat) (Fh11 : xF) (i : Nat) (t : Nat), (Fh11 (m) = some (.inl (10, [.int (nI ((if mOk A a then 0 else 1))), .ref (m + 1), .int (nI (un)), .int (nI (sv)), .int rs, .ref (m + 2), .ref (m + 3), .ref (m + 4), .ref (m + 5), .ref (m + 6), .int (nI (bm1_2)), .ref (m + 7), .int (nI (dm)), .ref (m + 8), .ref (m + 9), .int (nI (lnn)), .ref (m + 10), .int (nI (pn)), .int (nI (he)), .int er, .int ep, .int fc, .ref (m + 11), .int (nI (cn))]))) → (Fh11 (m + 1) = some (.inr (0, 4730, fun b9 => .int (nI (g b9))))) → (Fh11 (m + 2) = some (.inr (0, 8, fun b9 => .int (nI (l1_2 b9))))) → (Fh11 (m + 3) = some (.inr (0, 8, fun b9 => .int (nI (v1_2 b9))))) → (Fh11 (m + 4) = some (.inr (0, 8, fun b9 => .int (nI (r1_2 b9))))) → (Fh11 (m + 5) = some (.inr (0, 8, fun b9 => .int (nI (w1_2 b9))))) → (Fh11 (m + 6) = some (.inr (0, 112, fun b9 => .int (nI (b1_2 b9))))) → (Fh11 (m + 7) = some (.inr (0, 16, fun b9 => .int (nI (d7 b9))))) → (Fh11 (m + 8) = some (.inr (0, 17, fun b9 => .int (nI (b8 b9))))) → (Fh11 (m + 9) = some (.inr (1, 40, fun b9 => .int (nI (ln b9))))) → (Fh11 (m + 10) = some (.inr (1, 60, fun b9 => .int (nI (ip b9))))) → (Fh11 (m + 11) = some (.inr (0, 183, fun b9 => .int (nI (cs b9))))) → (∀ a9 : Nat, (a9 < m ∨ m + 12 ≤ a9) → Fh11 a9 = F a9) → (i ≤ nb + 4) → (mOk A a → t = crcB (bitsN (hLen A.1) (A.2.2.1.2.2 (mIx A a)).2.2.2 (A.2.2.1.2.2 (mIx A a)).2.2.1) (splB (hLen A.1) (hVal (hLen A.1)) (A.2.2.1.2.2 (mIx A a)).2.2.2 (A.2.2.1.2.2 (mIx A a)).2.2.1) i) → (¬ mOk A a → i = 0 ∧ t = 0) → (t ≤ 15) → (nb + 4 - i < m9) → xX P Θ 11 [some (.ref m), some (.int a), some (.int (nI (nb))), some (.int (nI (t))), some (.int (nI (i)))] [] Fh11 (z) 0 0 := by
    intro m9
    induction m9 with
    | zero => intros; omega
    | succ m9 ih_11 =>
      intro Fh11 i t o0 ga h2 h3 h4 h5 h6 h7 h8 h9 hi hcm hag hi9 kt kn kb hm_11
      refine x_iload hC d_MessageCoderModel_checksum_11 rfl ?_
      refine x_iload_n hC d_MessageCoderModel_checksum_13 rfl rfl ?_
      refine x_iconst hC d_MessageCoderModel_checksum_14 (v := nI 4) (by decide) ?_
      refine x_iadd hC d_MessageCoderModel_checksum_15 (v := (nI (nb + 4))) (x_addN (by omega)) ?_
      refine x_icmpN_ge hC d_MessageCoderModel_checksum_16 (tgt := 58) (by decide) (by omega) (by omega) (fun c_16 => ?_) (fun c_16 => ?_)
      · skip
        refine x_iload_n hC d_MessageCoderModel_checksum_58 rfl rfl ?_
        refine hret _ _ _ _ _ _ _ d_MessageCoderModel_checksum_59 (by decide) (by decide) rfl ?_
        have hok : mOk A a := Decidable.not_not.mp (fun h9 => by have h8 := (kn h9).1; have h7 : nb = 0 := hnb.trans (if_neg h9); omega)
        have hnb1 : nb = bitsN (hLen A.1) (A.2.2.1.2.2 (mIx A a)).2.2.2 (A.2.2.1.2.2 (mIx A a)).2.2.1 := hnb.trans (if_pos hok)
        have e9 : t = crcB (bitsN (hLen A.1) (A.2.2.1.2.2 (mIx A a)).2.2.2 (A.2.2.1.2.2 (mIx A a)).2.2.1) (splB (hLen A.1) (hVal (hLen A.1)) (A.2.2.1.2.2 (mIx A a)).2.2.2 (A.2.2.1.2.2 (mIx A a)).2.2.1) (bitsN (hLen A.1) (A.2.2.1.2.2 (mIx A a)).2.2.2 (A.2.2.1.2.2 (mIx A a)).2.2.1 + 4) := by rw [kt hok, show i = bitsN (hLen A.1) (A.2.2.1.2.2 (mIx A a)).2.2.2 (A.2.2.1.2.2 (mIx A a)).2.2.1 + 4 by omega]
        exact ⟨congrArg (fun q => some (Value.int (nI q))) (e9.trans (if_pos hok).symm), rfl, ⟨_, _, _, _, _, _, _, _, _, _, _, _, _, _, _, _, _, o0, ga, h2, h3, h4, h5, h6, h7, h8, h9, hi, hcm, hg, hln, hip⟩, hag⟩
      · skip
        refine x_aload_n hC d_MessageCoderModel_checksum_19 rfl rfl ?_
        refine x_getf hC kf_MessageCoderModel_51 o0 rfl d_MessageCoderModel_checksum_20 ?_
        refine x_top (v := (xb (¬ mOk A a))) (by by_cases h9 : mOk A a; (rw [if_pos h9]; exact xb_f0 (fun h => h h9)); (rw [if_neg h9]; exact xb_t1 h9)) ?_
        refine x_ifB_ne hC d_MessageCoderModel_checksum_23 (tgt := 58) (by decide) (fun c_23 => ?_) (fun c_23 => ?_)
        · skip
          refine x_iload_n hC d_MessageCoderModel_checksum_58 rfl rfl ?_
          exact hret _ _ _ _ _ _ _ d_MessageCoderModel_checksum_59 (by decide) (by decide) rfl (⟨congrArg (fun q => some (Value.int (nI q))) ((kn c_23).2.trans (if_neg c_23).symm), rfl, ⟨_, _, _, _, _, _, _, _, _, _, _, _, _, _, _, _, _, o0, ga, h2, h3, h4, h5, h6, h7, h8, h9, hi, hcm, hg, hln, hip⟩, hag⟩)
        · skip
          have hok : mOk A a := Decidable.not_not.mp c_23
          obtain ⟨hb112, hbm1, hbb⟩ := hz0 hok
          have hz1 := zbt_le (n := bitsN (hLen A.1) (A.2.2.1.2.2 (mIx A a)).2.2.2 (A.2.2.1.2.2 (mIx A a)).2.2.1) (f := splB (hLen A.1) (hVal (hLen A.1)) (A.2.2.1.2.2 (mIx A a)).2.2.2 (A.2.2.1.2.2 (mIx A a)).2.2.1) (fun j _ => splB_le _ _ _ _ j) 0 i
          refine x_iconst hC d_MessageCoderModel_checksum_26 (v := nI 2) (by decide) ?_
          refine x_iload_n hC d_MessageCoderModel_checksum_27 rfl rfl ?_
          refine x_imul hC d_MessageCoderModel_checksum_28 (v := (nI ((2) * (t)))) (pk_mul _ _) ?_
          refine x_aload_n hC d_MessageCoderModel_checksum_29 rfl rfl ?_
          refine x_iload hC d_MessageCoderModel_checksum_30 rfl ?_
          refine x_callV hC kv_MessageCoderModel_164 (c_MessageCoderModel_bit (o0 := o0) (h6 := h6) (hi := by omega) (hb := by omega)) o0 rfl rfl (by decide) rfl rfl rfl (Nat.le_of_ble_eq_true rfl) (by decide) d_MessageCoderModel_checksum_32 (fun r9 F9 z9 hp9 => ?_)
          obtain ⟨rfl, h9b, h9c⟩ := hp9
          rw [h9b, h9c]
          clear h9b h9c F9 z9
          refine x_top (v := (nI (zbt (bitsN (hLen A.1) (A.2.2.1.2.2 (mIx A a)).2.2.2 (A.2.2.1.2.2 (mIx A a)).2.2.1) (splB (hLen A.1) (hVal (hLen A.1)) (A.2.2.1.2.2 (mIx A a)).2.2.2 (A.2.2.1.2.2 (mIx A a)).2.2.1) 0 i))) (congrArg nI (by rw [← hbm1]; unfold zbt; by_cases h9 : i < bm1_2; (rw [if_pos h9, if_pos ⟨Nat.zero_le _, h9⟩]; exact hbb _ h9); (rw [if_neg h9, if_neg (fun h => h9 h.2)]))) ?_
          refine x_iadd hC d_MessageCoderModel_checksum_35 (v := (nI (((2) * (t)) + (zbt (bitsN (hLen A.1) (A.2.2.1.2.2 (mIx A a)).2.2.2 (A.2.2.1.2.2 (mIx A a)).2.2.1) (splB (hLen A.1) (hVal (hLen A.1)) (A.2.2.1.2.2 (mIx A a)).2.2.2 (A.2.2.1.2.2 (mIx A a)).2.2.1) 0 i)))) (x_addN (by omega)) ?_
          refine x_istore_n hC d_MessageCoderModel_checksum_36 rfl (Nat.le_of_ble_eq_true rfl) (L1 := [some (.ref m), some (.int a), some (.int (nI (nb))), some (.int (nI (((2) * (t)) + (zbt (bitsN (hLen A.1) (A.2.2.1.2.2 (mIx A a)).2.2.2 (A.2.2.1.2.2 (mIx A a)).2.2.1) (splB (hLen A.1) (hVal (hLen A.1)) (A.2.2.1.2.2 (mIx A a)).2.2.2 (A.2.2.1.2.2 (mIx A a)).2.2.1) 0 i)))), some (.int (nI (i)))]) rfl ?_
          refine x_iload_n hC d_MessageCoderModel_checksum_37 rfl rfl ?_
          refine x_bipush hC d_MessageCoderModel_checksum_38 (v := nI 15) (by decide) ?_
          refine x_icmpN_le hC d_MessageCoderModel_checksum_40 (tgt := 50) (by decide) (by omega) (by omega) (fun c_40 => ?_) (fun c_40 => ?_)
          · skip
            refine x_iload_n hC d_MessageCoderModel_checksum_50 rfl rfl ?_
            refine x_top (v := (nI (crcS t (zbt (bitsN (hLen A.1) (A.2.2.1.2.2 (mIx A a)).2.2.2 (A.2.2.1.2.2 (mIx A a)).2.2.1) (splB (hLen A.1) (hVal (hLen A.1)) (A.2.2.1.2.2 (mIx A a)).2.2.2 (A.2.2.1.2.2 (mIx A a)).2.2.1) 0 i)))) (congrArg nI (by unfold crcS; first | (rw [if_pos (by omega)]; omega) | (rw [if_neg (by omega), Nat.mul_comm 2 t]))) ?_
            refine x_istore_n hC d_MessageCoderModel_checksum_51 rfl (Nat.le_of_ble_eq_true rfl) (L1 := [some (.ref m), some (.int a), some (.int (nI (nb))), some (.int (nI (crcS t (zbt (bitsN (hLen A.1) (A.2.2.1.2.2 (mIx A a)).2.2.2 (A.2.2.1.2.2 (mIx A a)).2.2.1) (splB (hLen A.1) (hVal (hLen A.1)) (A.2.2.1.2.2 (mIx A a)).2.2.2 (A.2.2.1.2.2 (mIx A a)).2.2.1) 0 i)))), some (.int (nI (i)))]) rfl ?_
            refine x_iinc hC d_MessageCoderModel_checksum_52 rfl (v := (nI (i + 1))) (x_incN 1) (Nat.le_of_ble_eq_true rfl) (L1 := [some (.ref m), some (.int a), some (.int (nI (nb))), some (.int (nI (crcS t (zbt (bitsN (hLen A.1) (A.2.2.1.2.2 (mIx A a)).2.2.2 (A.2.2.1.2.2 (mIx A a)).2.2.1) (splB (hLen A.1) (hVal (hLen A.1)) (A.2.2.1.2.2 (mIx A a)).2.2.2 (A.2.2.1.2.2 (mIx A a)).2.2.1) 0 i)))), some (.int (nI (i + 1)))]) rfl ?_
            refine x_goto hC d_MessageCoderModel_checksum_55 (tgt := 11) (by decide) ?_
            exact ih_11 Fh11 (i + 1) (crcS t (zbt (bitsN (hLen A.1) (A.2.2.1.2.2 (mIx A a)).2.2.2 (A.2.2.1.2.2 (mIx A a)).2.2.1) (splB (hLen A.1) (hVal (hLen A.1)) (A.2.2.1.2.2 (mIx A a)).2.2.2 (A.2.2.1.2.2 (mIx A a)).2.2.1) 0 i)) o0 ga h2 h3 h4 h5 h6 h7 h8 h9 hi hcm hag (by omega) (fun h9 => by rw [kt h9]; rfl) (fun h9 => absurd hok h9) (crcS_le kb hz1) (by omega)
          · skip
            refine x_iload_n hC d_MessageCoderModel_checksum_43 rfl rfl ?_
            refine x_bipush hC d_MessageCoderModel_checksum_44 (v := nI 19) (by decide) ?_
            refine x_ixor hC d_MessageCoderModel_checksum_46 (v := (nI ((((2) * (t)) + (zbt (bitsN (hLen A.1) (A.2.2.1.2.2 (mIx A a)).2.2.2 (A.2.2.1.2.2 (mIx A a)).2.2.1) (splB (hLen A.1) (hVal (hLen A.1)) (A.2.2.1.2.2 (mIx A a)).2.2.2 (A.2.2.1.2.2 (mIx A a)).2.2.1) 0 i)) ^^^ 19))) (x_xorN _ _) ?_
            refine x_goto hC d_MessageCoderModel_checksum_47 (tgt := 51) (by decide) ?_
            refine x_top (v := (nI (crcS t (zbt (bitsN (hLen A.1) (A.2.2.1.2.2 (mIx A a)).2.2.2 (A.2.2.1.2.2 (mIx A a)).2.2.1) (splB (hLen A.1) (hVal (hLen A.1)) (A.2.2.1.2.2 (mIx A a)).2.2.2 (A.2.2.1.2.2 (mIx A a)).2.2.1) 0 i)))) (congrArg nI (by unfold crcS; first | (rw [if_pos (by omega)]; omega) | (rw [if_neg (by omega), Nat.mul_comm 2 t]))) ?_
            refine x_istore_n hC d_MessageCoderModel_checksum_51 rfl (Nat.le_of_ble_eq_true rfl) (L1 := [some (.ref m), some (.int a), some (.int (nI (nb))), some (.int (nI (crcS t (zbt (bitsN (hLen A.1) (A.2.2.1.2.2 (mIx A a)).2.2.2 (A.2.2.1.2.2 (mIx A a)).2.2.1) (splB (hLen A.1) (hVal (hLen A.1)) (A.2.2.1.2.2 (mIx A a)).2.2.2 (A.2.2.1.2.2 (mIx A a)).2.2.1) 0 i)))), some (.int (nI (i)))]) rfl ?_
            refine x_iinc hC d_MessageCoderModel_checksum_52 rfl (v := (nI (i + 1))) (x_incN 1) (Nat.le_of_ble_eq_true rfl) (L1 := [some (.ref m), some (.int a), some (.int (nI (nb))), some (.int (nI (crcS t (zbt (bitsN (hLen A.1) (A.2.2.1.2.2 (mIx A a)).2.2.2 (A.2.2.1.2.2 (mIx A a)).2.2.1) (splB (hLen A.1) (hVal (hLen A.1)) (A.2.2.1.2.2 (mIx A a)).2.2.2 (A.2.2.1.2.2 (mIx A a)).2.2.1) 0 i)))), some (.int (nI (i + 1)))]) rfl ?_
            refine x_goto hC d_MessageCoderModel_checksum_55 (tgt := 11) (by decide) ?_
            exact ih_11 Fh11 (i + 1) (crcS t (zbt (bitsN (hLen A.1) (A.2.2.1.2.2 (mIx A a)).2.2.2 (A.2.2.1.2.2 (mIx A a)).2.2.1) (splB (hLen A.1) (hVal (hLen A.1)) (A.2.2.1.2.2 (mIx A a)).2.2.2 (A.2.2.1.2.2 (mIx A a)).2.2.1) 0 i)) o0 ga h2 h3 h4 h5 h6 h7 h8 h9 hi hcm hag (by omega) (fun h9 => by rw [kt h9]; rfl) (fun h9 => absurd hok h9) (crcS_le kb hz1) (by omega)
  exact loop_11 (nb + 4 - 0 + 1) F1 (0) (0) o0 ga h2 h3 h4 h5 h6 h7 h8 h9 hi hcm hag (by omega) (fun _ => rfl) (fun _ => ⟨rfl, rfl⟩) (by omega) (by omega)

theorem d_MessageCoderModel_checksumByTable_0 : decode prog_14_method_78_code 0 = .ok (.aload_n 0, 1) := by decide +kernel
theorem d_MessageCoderModel_checksumByTable_1 : decode prog_14_method_78_code 1 = .ok (.iload_n 1, 1) := by decide +kernel
theorem d_MessageCoderModel_checksumByTable_2 : decode prog_14_method_78_code 2 = .ok (.invokevirtual 211, 3) := by decide +kernel
theorem d_MessageCoderModel_checksumByTable_5 : decode prog_14_method_78_code 5 = .ok (.ireturn, 1) := by decide +kernel
set_option maxHeartbeats 4000000 in
set_option maxRecDepth 20000 in
theorem c_MessageCoderModel_checksumByTable {P : xP} {F : xF} {z : Nat} {m : Nat} {th0 : Nat} {M : mcS} {a : Int32} (hD : xMD F (m) (th0) (M)) (hI : mInv M) : xM P xy_MessageCoderModel_checksumByTable [.ref m, .int a] F (z) 0 0 (fun r9 F9 z9 => r9 = some (.int (nI (if mOk M.1 a then crcB (bitsN (hLen M.1.1) (mAt M.1 a).2.2.2 (mAt M.1 a).2.2.1) (splB (hLen M.1.1) (hVal (hLen M.1.1)) (mAt M.1 a).2.2.2 (mAt M.1 a).2.2.1) (bitsN (hLen M.1.1) (mAt M.1 a).2.2.2 (mAt M.1 a).2.2.1 + 4) else 0))) ∧ z9 = z ∧ xMD F9 (m) ((if mOk M.1 a then 0 else 1)) (M) ∧ (∀ a9 : Nat, (a9 < m ∨ m + 12 ≤ a9) → F9 a9 = F a9)) := by
  refine xM_i .int rfl (Nat.le_of_ble_eq_true rfl) (L0 := [some (.ref m), some (.int a)]) rfl rfl fun Θ hC hret => ?_
  have hag : ∀ a9 : Nat, (a9 < m ∨ m + 12 ≤ a9) → F a9 = F a9 := fun a9 _ => rfl
  obtain ⟨_, _, _, _, _, _, _, _, _, _, _, _, _, _, _, _, _, o0, -⟩ := id hD
  refine x_aload_n hC d_MessageCoderModel_checksumByTable_0 rfl rfl ?_
  refine x_iload_n hC d_MessageCoderModel_checksumByTable_1 rfl rfl ?_
  refine x_callV hC kv_MessageCoderModel_211 (c_MessageCoderModel_checksum (hD := hD) (hI := hI)) o0 rfl rfl (by decide) rfl rfl rfl (Nat.le_of_ble_eq_true rfl) (by decide) d_MessageCoderModel_checksumByTable_2 (fun r9 F9 z9 hp9 => ?_)
  obtain ⟨rfl, h9c, j0, hag9⟩ := hp9
  rw [h9c]
  clear h9c z9
  generalize F9 = F1 at *
  have hD : xMD F1 (m) ((if mOk M.1 a then 0 else 1)) (M) := j0
  have hag : ∀ a9 : Nat, (a9 < m ∨ m + 12 ≤ a9) → F1 a9 = F a9 := fun a9 q0 => (hag9 a9 (by omega)).trans (hag a9 q0)
  have hg_2 := hag9
  clear hag9
  exact hret _ _ _ _ _ _ _ d_MessageCoderModel_checksumByTable_5 (by decide) (by decide) rfl (⟨rfl, rfl, hD, hag⟩)

theorem d_MessageCoderModel_areThere_0 : decode prog_14_method_79_code 0 = .ok (.aload_n 0, 1) := by decide +kernel
theorem d_MessageCoderModel_areThere_1 : decode prog_14_method_79_code 1 = .ok (.aload_n 0, 1) := by decide +kernel
theorem d_MessageCoderModel_areThere_2 : decode prog_14_method_79_code 2 = .ok (.iload_n 1, 1) := by decide +kernel
theorem d_MessageCoderModel_areThere_3 : decode prog_14_method_79_code 3 = .ok (.invokevirtual 142, 3) := by decide +kernel
theorem d_MessageCoderModel_areThere_6 : decode prog_14_method_79_code 6 = .ok (.ifCond .eq 15, 3) := by decide +kernel
theorem d_MessageCoderModel_areThere_9 : decode prog_14_method_79_code 9 = .ok (.aload_n 0, 1) := by decide +kernel
theorem d_MessageCoderModel_areThere_10 : decode prog_14_method_79_code 10 = .ok (.iload_n 2, 1) := by decide +kernel
theorem d_MessageCoderModel_areThere_11 : decode prog_14_method_79_code 11 = .ok (.invokevirtual 142, 3) := by decide +kernel
theorem d_MessageCoderModel_areThere_14 : decode prog_14_method_79_code 14 = .ok (.ifCond .eq 7, 3) := by decide +kernel
theorem d_MessageCoderModel_areThere_17 : decode prog_14_method_79_code 17 = .ok (.iconst 1, 1) := by decide +kernel
theorem d_MessageCoderModel_areThere_18 : decode prog_14_method_79_code 18 = .ok (.goto 4, 3) := by decide +kernel
theorem d_MessageCoderModel_areThere_21 : decode prog_14_method_79_code 21 = .ok (.iconst 0, 1) := by decide +kernel
theorem d_MessageCoderModel_areThere_22 : decode prog_14_method_79_code 22 = .ok (.invokevirtual 195, 3) := by decide +kernel
theorem d_MessageCoderModel_areThere_25 : decode prog_14_method_79_code 25 = .ok (.ireturn, 1) := by decide +kernel
set_option maxHeartbeats 4000000 in
set_option maxRecDepth 20000 in
theorem c_MessageCoderModel_areThere {P : xP} {F : xF} {z : Nat} {m : Nat} {th : Nat} {ch : Nat} {sv : Nat} {rs : Int32} {bm : Nat} {dm : Nat} {lz : Nat} {ty : Nat} {he : Nat} {er : Int32} {ea : Int32} {fa : Int32} {cn : Nat} {g : Nat → Nat} {A : aS} {a : Int32} {c : Int32} (o0 : F (m) = some (.inl (10, [.int (nI (th)), .ref (m + 1), .int (nI (ch)), .int (nI (sv)), .int rs, .ref (m + 2), .ref (m + 3), .ref (m + 4), .ref (m + 5), .ref (m + 6), .int (nI (bm)), .ref (m + 7), .int (nI (dm)), .ref (m + 8), .ref (m + 9), .int (nI (lz)), .ref (m + 10), .int (nI (ty)), .int (nI (he)), .int er, .int ea, .int fa, .ref (m + 11), .int (nI (cn))]))) (ga : F (m + 1) = some (.inr (0, 4730, fun b9 => .int (nI (g b9))))) (hr : rRow g A) (hA : aInv A) : xM P xy_MessageCoderModel_areThere [.ref m, .int a, .int c] F (z) 0 0 (fun r9 F9 z9 => r9 = some (.int (xb (mOk A a ∧ mOk A c))) ∧ z9 = z ∧ F9 (m) = some (.inl (10, [.int (nI ((if mOk A a ∧ mOk A c then 0 else 1))), .ref (m + 1), .int (nI (ch)), .int (nI (sv)), .int rs, .ref (m + 2), .ref (m + 3), .ref (m + 4), .ref (m + 5), .ref (m + 6), .int (nI (bm)), .ref (m + 7), .int (nI (dm)), .ref (m + 8), .ref (m + 9), .int (nI (lz)), .ref (m + 10), .int (nI (ty)), .int (nI (he)), .int er, .int ea, .int fa, .ref (m + 11), .int (nI (cn))])) ∧ F9 (m + 1) = some (.inr (0, 4730, fun b9 => .int (nI (g b9)))) ∧ (∀ a9 : Nat, (a9 < m ∨ m + 1 ≤ a9) → F9 a9 = F a9)) := by
  refine xM_i .boolean rfl (Nat.le_of_ble_eq_true rfl) (L0 := [some (.ref m), some (.int a), some (.int c)]) rfl rfl fun Θ hC hret => ?_
  have hag : ∀ a9 : Nat, (a9 < m ∨ m + 1 ≤ a9) → F a9 = F a9 := fun a9 _ => rfl
  refine x_aload_n hC d_MessageCoderModel_areThere_0 rfl rfl ?_
  refine x_aload_n hC d_MessageCoderModel_areThere_1 rfl rfl ?_
  refine x_iload_n hC d_MessageCoderModel_areThere_2 rfl rfl ?_
  refine x_callV hC kv_MessageCoderModel_142 (c_MessageCoderModel_isThere (o0 := o0) (ga := ga) (hr := hr) (hA := hA)) o0 rfl rfl (by decide) rfl rfl rfl (Nat.le_of_ble_eq_true rfl) (by decide) d_MessageCoderModel_areThere_3 (fun r9 F9 z9 hp9 => ?_)
  obtain ⟨rfl, h9b, h9c⟩ := hp9
  rw [h9b, h9c]
  clear h9b h9c F9 z9
  refine x_ifB_eq hC d_MessageCoderModel_areThere_6 (tgt := 21) (by decide) (fun c_6 => ?_) (fun c_6 => ?_)
  · skip
    refine x_iconst hC d_MessageCoderModel_areThere_21 (v := nI 0) (by decide) ?_
    refine x_top (v := (xb (mOk A a ∧ mOk A c))) (xb_f0 (fun h9 => c_6 h9.1)) ?_
    refine x_callV hC kv_MessageCoderModel_195 (c_MessageCoderModel_isFine (o0 := o0)) o0 rfl rfl (by decide) rfl rfl rfl (Nat.le_of_ble_eq_true rfl) (by decide) d_MessageCoderModel_areThere_22 (fun r9 F9 z9 hp9 => ?_)
    obtain ⟨rfl, h9c, j0, hag9⟩ := hp9
    rw [h9c]
    clear h9c z9
    generalize F9 = F1 at *
    have ga : F1 (m + 1) = some (.inr (0, 4730, fun b9 => .int (nI (g b9)))) := (hag9 _ (by omega)).trans ga
    have o0 : F1 (m) = some (.inl (10, [.int (nI ((if (mOk A a ∧ mOk A c) then 0 else 1))), .ref (m + 1), .int (nI (ch)), .int (nI (sv)), .int rs, .ref (m + 2), .ref (m + 3), .ref (m + 4), .ref (m + 5), .ref (m + 6), .int (nI (bm)), .ref (m + 7), .int (nI (dm)), .ref (m + 8), .ref (m + 9), .int (nI (lz)), .ref (m + 10), .int (nI (ty)), .int (nI (he)), .int er, .int ea, .int fa, .ref (m + 11), .int (nI (cn))])) := j0
    have hag : ∀ a9 : Nat, (a9 < m ∨ m + 1 ≤ a9) → F1 a9 = F a9 := fun a9 q0 => (hag9 a9 (by omega)).trans (hag a9 q0)
    have hg_22 := hag9
    clear hag9
    exact hret _ _ _ _ _ _ _ d_MessageCoderModel_areThere_25 (by decide) (by decide) xb_nar (⟨rfl, rfl, o0, ga, hag⟩)
  · skip
    refine x_aload_n hC d_MessageCoderModel_areThere_9 rfl rfl ?_
    refine x_iload_n hC d_MessageCoderModel_areThere_10 rfl rfl ?_
    refine x_callV hC kv_MessageCoderModel_142 (c_MessageCoderModel_isThere (o0 := o0) (ga := ga) (hr := hr) (hA := hA)) o0 rfl rfl (by decide) rfl rfl rfl (Nat.le_of_ble_eq_true rfl) (by decide) d_MessageCoderModel_areThere_11 (fun r9 F9 z9 hp9 => ?_)
    obtain ⟨rfl, h9b, h9c⟩ := hp9
    rw [h9b, h9c]
    clear h9b h9c F9 z9
    refine x_ifB_eq hC d_MessageCoderModel_areThere_14 (tgt := 21) (by decide) (fun c_14 => ?_) (fun c_14 => ?_)
    · skip
      refine x_iconst hC d_MessageCoderModel_areThere_21 (v := nI 0) (by decide) ?_
      refine x_top (v := (xb (mOk A a ∧ mOk A c))) (xb_f0 (fun h9 => c_14 h9.2)) ?_
      refine x_callV hC kv_MessageCoderModel_195 (c_MessageCoderModel_isFine (o0 := o0)) o0 rfl rfl (by decide) rfl rfl rfl (Nat.le_of_ble_eq_true rfl) (by decide) d_MessageCoderModel_areThere_22 (fun r9 F9 z9 hp9 => ?_)
      obtain ⟨rfl, h9c, j0, hag9⟩ := hp9
      rw [h9c]
      clear h9c z9
      generalize F9 = F2 at *
      have ga : F2 (m + 1) = some (.inr (0, 4730, fun b9 => .int (nI (g b9)))) := (hag9 _ (by omega)).trans ga
      have o0 : F2 (m) = some (.inl (10, [.int (nI ((if (mOk A a ∧ mOk A c) then 0 else 1))), .ref (m + 1), .int (nI (ch)), .int (nI (sv)), .int rs, .ref (m + 2), .ref (m + 3), .ref (m + 4), .ref (m + 5), .ref (m + 6), .int (nI (bm)), .ref (m + 7), .int (nI (dm)), .ref (m + 8), .ref (m + 9), .int (nI (lz)), .ref (m + 10), .int (nI (ty)), .int (nI (he)), .int er, .int ea, .int fa, .ref (m + 11), .int (nI (cn))])) := j0
      have hag : ∀ a9 : Nat, (a9 < m ∨ m + 1 ≤ a9) → F2 a9 = F a9 := fun a9 q0 => (hag9 a9 (by omega)).trans (hag a9 q0)
      have hg_22 := hag9
      clear hag9
      exact hret _ _ _ _ _ _ _ d_MessageCoderModel_areThere_25 (by decide) (by decide) xb_nar (⟨rfl, rfl, o0, ga, hag⟩)
    · skip
      refine x_iconst hC d_MessageCoderModel_areThere_17 (v := nI 1) (by decide) ?_
      refine x_goto hC d_MessageCoderModel_areThere_18 (tgt := 22) (by decide) ?_
      refine x_top (v := (xb (mOk A a ∧ mOk A c))) (xb_t1 ⟨c_6, c_14⟩) ?_
      refine x_callV hC kv_MessageCoderModel_195 (c_MessageCoderModel_isFine (o0 := o0)) o0 rfl rfl (by decide) rfl rfl rfl (Nat.le_of_ble_eq_true rfl) (by decide) d_MessageCoderModel_areThere_22 (fun r9 F9 z9 hp9 => ?_)
      obtain ⟨rfl, h9c, j0, hag9⟩ := hp9
      rw [h9c]
      clear h9c z9
      generalize F9 = F3 at *
      have ga : F3 (m + 1) = some (.inr (0, 4730, fun b9 => .int (nI (g b9)))) := (hag9 _ (by omega)).trans ga
      have o0 : F3 (m) = some (.inl (10, [.int (nI ((if (mOk A a ∧ mOk A c) then 0 else 1))), .ref (m + 1), .int (nI (ch)), .int (nI (sv)), .int rs, .ref (m + 2), .ref (m + 3), .ref (m + 4), .ref (m + 5), .ref (m + 6), .int (nI (bm)), .ref (m + 7), .int (nI (dm)), .ref (m + 8), .ref (m + 9), .int (nI (lz)), .ref (m + 10), .int (nI (ty)), .int (nI (he)), .int er, .int ea, .int fa, .ref (m + 11), .int (nI (cn))])) := j0
      have hag : ∀ a9 : Nat, (a9 < m ∨ m + 1 ≤ a9) → F3 a9 = F a9 := fun a9 q0 => (hag9 a9 (by omega)).trans (hag a9 q0)
      have hg_22 := hag9
      clear hag9
      exact hret _ _ _ _ _ _ _ d_MessageCoderModel_areThere_25 (by decide) (by decide) xb_nar (⟨rfl, rfl, o0, ga, hag⟩)

theorem d_MessageCoderModel_common_0 : decode prog_14_method_80_code 0 = .ok (.aload_n 0, 1) := by decide +kernel
theorem d_MessageCoderModel_common_1 : decode prog_14_method_80_code 1 = .ok (.iload_n 1, 1) := by decide +kernel
theorem d_MessageCoderModel_common_2 : decode prog_14_method_80_code 2 = .ok (.iconst 2, 1) := by decide +kernel
theorem d_MessageCoderModel_common_3 : decode prog_14_method_80_code 3 = .ok (.invokevirtual 81, 3) := by decide +kernel
theorem d_MessageCoderModel_common_6 : decode prog_14_method_80_code 6 = .ok (.istore_n 3, 1) := by decide +kernel
theorem d_MessageCoderModel_common_7 : decode prog_14_method_80_code 7 = .ok (.aload_n 0, 1) := by decide +kernel
theorem d_MessageCoderModel_common_8 : decode prog_14_method_80_code 8 = .ok (.iload_n 2, 1) := by decide +kernel
theorem d_MessageCoderModel_common_9 : decode prog_14_method_80_code 9 = .ok (.iconst 2, 1) := by decide +kernel
theorem d_MessageCoderModel_common_10 : decode prog_14_method_80_code 10 = .ok (.invokevirtual 81, 3) := by decide +kernel
theorem d_MessageCoderModel_common_13 : decode prog_14_method_80_code 13 = .ok (.istore 4, 2) := by decide +kernel
theorem d_MessageCoderModel_common_15 : decode prog_14_method_80_code 15 = .ok (.iconst 0, 1) := by decide +kernel
theorem d_MessageCoderModel_common_16 : decode prog_14_method_80_code 16 = .ok (.istore 5, 2) := by decide +kernel
theorem d_MessageCoderModel_common_18 : decode prog_14_method_80_code 18 = .ok (.iload 5, 2) := by decide +kernel
theorem d_MessageCoderModel_common_20 : decode prog_14_method_80_code 20 = .ok (.iload 4, 2) := by decide +kernel
theorem d_MessageCoderModel_common_22 : decode prog_14_method_80_code 22 = .ok (.if_icmp .gt 17, 3) := by decide +kernel
theorem d_MessageCoderModel_common_25 : decode prog_14_method_80_code 25 = .ok (.aload_n 0, 1) := by decide +kernel
theorem d_MessageCoderModel_common_26 : decode prog_14_method_80_code 26 = .ok (.getfield 31, 3) := by decide +kernel
theorem d_MessageCoderModel_common_29 : decode prog_14_method_80_code 29 = .ok (.iload 5, 2) := by decide +kernel
theorem d_MessageCoderModel_common_31 : decode prog_14_method_80_code 31 = .ok (.iconst 0, 1) := by decide +kernel
theorem d_MessageCoderModel_common_32 : decode prog_14_method_80_code 32 = .ok (.iastore, 1) := by decide +kernel
theorem d_MessageCoderModel_common_33 : decode prog_14_method_80_code 33 = .ok (.iinc 5 1, 3) := by decide +kernel
theorem d_MessageCoderModel_common_36 : decode prog_14_method_80_code 36 = .ok (.goto (-18), 3) := by decide +kernel
theorem d_MessageCoderModel_common_39 : decode prog_14_method_80_code 39 = .ok (.iconst 0, 1) := by decide +kernel
theorem d_MessageCoderModel_common_40 : decode prog_14_method_80_code 40 = .ok (.istore 5, 2) := by decide +kernel
theorem d_MessageCoderModel_common_42 : decode prog_14_method_80_code 42 = .ok (.iload 5, 2) := by decide +kernel
theorem d_MessageCoderModel_common_44 : decode prog_14_method_80_code 44 = .ok (.iload_n 3, 1) := by decide +kernel
theorem d_MessageCoderModel_common_45 : decode prog_14_method_80_code 45 = .ok (.if_icmp .ge 140, 3) := by decide +kernel
theorem d_MessageCoderModel_common_48 : decode prog_14_method_80_code 48 = .ok (.iconst 0, 1) := by decide +kernel
theorem d_MessageCoderModel_common_49 : decode prog_14_method_80_code 49 = .ok (.istore 6, 2) := by decide +kernel
theorem d_MessageCoderModel_common_51 : decode prog_14_method_80_code 51 = .ok (.iconst 1, 1) := by decide +kernel
theorem d_MessageCoderModel_common_52 : decode prog_14_method_80_code 52 = .ok (.istore 7, 2) := by decide +kernel
theorem d_MessageCoderModel_common_54 : decode prog_14_method_80_code 54 = .ok (.iload 7, 2) := by decide +kernel
theorem d_MessageCoderModel_common_56 : decode prog_14_method_80_code 56 = .ok (.iload 4, 2) := by decide +kernel
theorem d_MessageCoderModel_common_58 : decode prog_14_method_80_code 58 = .ok (.if_icmp .gt 121, 3) := by decide +kernel
theorem d_MessageCoderModel_common_61 : decode prog_14_method_80_code 61 = .ok (.aload_n 0, 1) := by decide +kernel
theorem d_MessageCoderModel_common_62 : decode prog_14_method_80_code 62 = .ok (.getfield 31, 3) := by decide +kernel
theorem d_MessageCoderModel_common_65 : decode prog_14_method_80_code 65 = .ok (.iload 7, 2) := by decide +kernel
theorem d_MessageCoderModel_common_67 : decode prog_14_method_80_code 67 = .ok (.iaload, 1) := by decide +kernel
theorem d_MessageCoderModel_common_68 : decode prog_14_method_80_code 68 = .ok (.istore 8, 2) := by decide +kernel
theorem d_MessageCoderModel_common_70 : decode prog_14_method_80_code 70 = .ok (.aload_n 0, 1) := by decide +kernel
theorem d_MessageCoderModel_common_71 : decode prog_14_method_80_code 71 = .ok (.iload_n 1, 1) := by decide +kernel
theorem d_MessageCoderModel_common_72 : decode prog_14_method_80_code 72 = .ok (.iconst 3, 1) := by decide +kernel
theorem d_MessageCoderModel_common_73 : decode prog_14_method_80_code 73 = .ok (.iload 5, 2) := by decide +kernel
theorem d_MessageCoderModel_common_75 : decode prog_14_method_80_code 75 = .ok (.iadd, 1) := by decide +kernel
theorem d_MessageCoderModel_common_76 : decode prog_14_method_80_code 76 = .ok (.invokevirtual 81, 3) := by decide +kernel
theorem d_MessageCoderModel_common_79 : decode prog_14_method_80_code 79 = .ok (.aload_n 0, 1) := by decide +kernel
theorem d_MessageCoderModel_common_80 : decode prog_14_method_80_code 80 = .ok (.iload_n 2, 1) := by decide +kernel
theorem d_MessageCoderModel_common_81 : decode prog_14_method_80_code 81 = .ok (.iconst 3, 1) := by decide +kernel
theorem d_MessageCoderModel_common_82 : decode prog_14_method_80_code 82 = .ok (.iload 7, 2) := by decide +kernel
theorem d_MessageCoderModel_common_84 : decode prog_14_method_80_code 84 = .ok (.iadd, 1) := by decide +kernel
theorem d_MessageCoderModel_common_85 : decode prog_14_method_80_code 85 = .ok (.iconst 1, 1) := by decide +kernel
theorem d_MessageCoderModel_common_86 : decode prog_14_method_80_code 86 = .ok (.isub, 1) := by decide +kernel
theorem d_MessageCoderModel_common_87 : decode prog_14_method_80_code 87 = .ok (.invokevirtual 81, 3) := by decide +kernel
theorem d_MessageCoderModel_common_90 : decode prog_14_method_80_code 90 = .ok (.if_icmp .ne 10, 3) := by decide +kernel
theorem d_MessageCoderModel_common_93 : decode prog_14_method_80_code 93 = .ok (.iload 6, 2) := by decide +kernel
theorem d_MessageCoderModel_common_95 : decode prog_14_method_80_code 95 = .ok (.iconst 1, 1) := by decide +kernel
theorem d_MessageCoderModel_common_96 : decode prog_14_method_80_code 96 = .ok (.iadd, 1) := by decide +kernel
theorem d_MessageCoderModel_common_97 : decode prog_14_method_80_code 97 = .ok (.goto 4, 3) := by decide +kernel
theorem d_MessageCoderModel_common_100 : decode prog_14_method_80_code 100 = .ok (.iconst 0, 1) := by decide +kernel
theorem d_MessageCoderModel_common_101 : decode prog_14_method_80_code 101 = .ok (.istore 9, 2) := by decide +kernel
theorem d_MessageCoderModel_common_103 : decode prog_14_method_80_code 103 = .ok (.aload_n 0, 1) := by decide +kernel
theorem d_MessageCoderModel_common_104 : decode prog_14_method_80_code 104 = .ok (.getfield 31, 3) := by decide +kernel
theorem d_MessageCoderModel_common_107 : decode prog_14_method_80_code 107 = .ok (.iload 7, 2) := by decide +kernel
theorem d_MessageCoderModel_common_109 : decode prog_14_method_80_code 109 = .ok (.iload 9, 2) := by decide +kernel
theorem d_MessageCoderModel_common_111 : decode prog_14_method_80_code 111 = .ok (.iload 8, 2) := by decide +kernel
theorem d_MessageCoderModel_common_113 : decode prog_14_method_80_code 113 = .ok (.if_icmp .le 8, 3) := by decide +kernel
theorem d_MessageCoderModel_common_116 : decode prog_14_method_80_code 116 = .ok (.iload 9, 2) := by decide +kernel
theorem d_MessageCoderModel_common_118 : decode prog_14_method_80_code 118 = .ok (.goto 5, 3) := by decide +kernel
theorem d_MessageCoderModel_common_121 : decode prog_14_method_80_code 121 = .ok (.iload 8, 2) := by decide +kernel
theorem d_MessageCoderModel_common_123 : decode prog_14_method_80_code 123 = .ok (.iastore, 1) := by decide +kernel
theorem d_MessageCoderModel_common_124 : decode prog_14_method_80_code 124 = .ok (.aload_n 0, 1) := by decide +kernel
theorem d_MessageCoderModel_common_125 : decode prog_14_method_80_code 125 = .ok (.getfield 31, 3) := by decide +kernel
theorem d_MessageCoderModel_common_128 : decode prog_14_method_80_code 128 = .ok (.iload 7, 2) := by decide +kernel
theorem d_MessageCoderModel_common_130 : decode prog_14_method_80_code 130 = .ok (.aload_n 0, 1) := by decide +kernel
theorem d_MessageCoderModel_common_131 : decode prog_14_method_80_code 131 = .ok (.getfield 31, 3) := by decide +kernel
theorem d_MessageCoderModel_common_134 : decode prog_14_method_80_code 134 = .ok (.iload 7, 2) := by decide +kernel
theorem d_MessageCoderModel_common_136 : decode prog_14_method_80_code 136 = .ok (.iconst 1, 1) := by decide +kernel
theorem d_MessageCoderModel_common_137 : decode prog_14_method_80_code 137 = .ok (.isub, 1) := by decide +kernel
theorem d_MessageCoderModel_common_138 : decode prog_14_method_80_code 138 = .ok (.iaload, 1) := by decide +kernel
theorem d_MessageCoderModel_common_139 : decode prog_14_method_80_code 139 = .ok (.aload_n 0, 1) := by decide +kernel
theorem d_MessageCoderModel_common_140 : decode prog_14_method_80_code 140 = .ok (.getfield 31, 3) := by decide +kernel
theorem d_MessageCoderModel_common_143 : decode prog_14_method_80_code 143 = .ok (.iload 7, 2) := by decide +kernel
theorem d_MessageCoderModel_common_145 : decode prog_14_method_80_code 145 = .ok (.iaload, 1) := by decide +kernel
theorem d_MessageCoderModel_common_146 : decode prog_14_method_80_code 146 = .ok (.if_icmp .le 15, 3) := by decide +kernel
theorem d_MessageCoderModel_common_149 : decode prog_14_method_80_code 149 = .ok (.aload_n 0, 1) := by decide +kernel
theorem d_MessageCoderModel_common_150 : decode prog_14_method_80_code 150 = .ok (.getfield 31, 3) := by decide +kernel
theorem d_MessageCoderModel_common_153 : decode prog_14_method_80_code 153 = .ok (.iload 7, 2) := by decide +kernel
theorem d_MessageCoderModel_common_155 : decode prog_14_method_80_code 155 = .ok (.iconst 1, 1) := by decide +kernel
theorem d_MessageCoderModel_common_156 : decode prog_14_method_80_code 156 = .ok (.isub, 1) := by decide +kernel
theorem d_MessageCoderModel_common_157 : decode prog_14_method_80_code 157 = .ok (.iaload, 1) := by decide +kernel
theorem d_MessageCoderModel_common_158 : decode prog_14_method_80_code 158 = .ok (.goto 10, 3) := by decide +kernel
theorem d_MessageCoderModel_common_161 : decode prog_14_method_80_code 161 = .ok (.aload_n 0, 1) := by decide +kernel
theorem d_MessageCoderModel_common_162 : decode prog_14_method_80_code 162 = .ok (.getfield 31, 3) := by decide +kernel
theorem d_MessageCoderModel_common_165 : decode prog_14_method_80_code 165 = .ok (.iload 7, 2) := by decide +kernel
theorem d_MessageCoderModel_common_167 : decode prog_14_method_80_code 167 = .ok (.iaload, 1) := by decide +kernel
theorem d_MessageCoderModel_common_168 : decode prog_14_method_80_code 168 = .ok (.iastore, 1) := by decide +kernel
theorem d_MessageCoderModel_common_169 : decode prog_14_method_80_code 169 = .ok (.iload 8, 2) := by decide +kernel
theorem d_MessageCoderModel_common_171 : decode prog_14_method_80_code 171 = .ok (.istore 6, 2) := by decide +kernel
theorem d_MessageCoderModel_common_173 : decode prog_14_method_80_code 173 = .ok (.iinc 7 1, 3) := by decide +kernel
theorem d_MessageCoderModel_common_176 : decode prog_14_method_80_code 176 = .ok (.goto (-122), 3) := by decide +kernel
theorem d_MessageCoderModel_common_179 : decode prog_14_method_80_code 179 = .ok (.iinc 5 1, 3) := by decide +kernel
theorem d_MessageCoderModel_common_182 : decode prog_14_method_80_code 182 = .ok (.goto (-140), 3) := by decide +kernel
theorem d_MessageCoderModel_common_185 : decode prog_14_method_80_code 185 = .ok (.aload_n 0, 1) := by decide +kernel
theorem d_MessageCoderModel_common_186 : decode prog_14_method_80_code 186 = .ok (.getfield 31, 3) := by decide +kernel
theorem d_MessageCoderModel_common_189 : decode prog_14_method_80_code 189 = .ok (.iload 4, 2) := by decide +kernel
theorem d_MessageCoderModel_common_191 : decode prog_14_method_80_code 191 = .ok (.iaload, 1) := by decide +kernel
theorem d_MessageCoderModel_common_192 : decode prog_14_method_80_code 192 = .ok (.ireturn, 1) := by decide +kernel
set_option maxHeartbeats 4000000 in
set_option maxRecDepth 20000 in
theorem c_MessageCoderModel_common {P : xP} {F : xF} {z : Nat} {m : Nat} {th : Nat} {ch : Nat} {sv : Nat} {rs : Int32} {bm : Nat} {dm : Nat} {lz : Nat} {ty : Nat} {he : Nat} {er : Int32} {ea : Int32} {fa : Int32} {cn : Nat} {g : Nat → Nat} {A : aS} {p : Nat} {r : Nat} {b8 : Nat → Nat} (o0 : F (m) = some (.inl (10, [.int (nI (th)), .ref (m + 1), .int (nI (ch)), .int (nI (sv)), .int rs, .ref (m + 2), .ref (m + 3), .ref (m + 4), .ref (m + 5), .ref (m + 6), .int (nI (bm)), .ref (m + 7), .int (nI (dm)), .ref (m + 8), .ref (m + 9), .int (nI (lz)), .ref (m + 10), .int (nI (ty)), .int (nI (he)), .int er, .int ea, .int fa, .ref (m + 11), .int (nI (cn))]))) (ga : F (m + 1) = some (.inr (0, 4730, fun b9 => .int (nI (g b9))))) (h8 : F (m + 8) = some (.inr (0, 17, fun b9 => .int (nI (b8 b9))))) (hr : rRow g A) (hA : aInv A) (hp : p < A.2.2.1.1) (hq : r < A.2.2.1.1) : xM P xy_MessageCoderModel_common [.ref m, .int (nI (p)), .int (nI (r))] F (z) 0 0 (fun r9 F9 z9 => ∃ b81 : Nat → Nat, r9 = some (.int (nI (lcs (A.2.2.1.2.2 p).2.2.2 (A.2.2.1.2.2 r).2.2.2 (A.2.2.1.2.2 p).2.2.1 (A.2.2.1.2.2 r).2.2.1))) ∧ z9 = z ∧ F9 (m) = some (.inl (10, [.int (nI (th)), .ref (m + 1), .int (nI (ch)), .int (nI (sv)), .int rs, .ref (m + 2), .ref (m + 3), .ref (m + 4), .ref (m + 5), .ref (m + 6), .int (nI (bm)), .ref (m + 7), .int (nI (dm)), .ref (m + 8), .ref (m + 9), .int (nI (lz)), .ref (m + 10), .int (nI (ty)), .int (nI (he)), .int er, .int ea, .int fa, .ref (m + 11), .int (nI (cn))])) ∧ F9 (m + 1) = some (.inr (0, 4730, fun b9 => .int (nI (g b9)))) ∧ F9 (m + 8) = some (.inr (0, 17, fun b9 => .int (nI (b81 b9)))) ∧ (∀ a9 : Nat, (a9 < m + 8 ∨ m + 8 + 1 ≤ a9) → F9 a9 = F a9)) := by
  refine xM_i .int rfl (Nat.le_of_ble_eq_true rfl) (L0 := [some (.ref m), some (.int (nI (p))), some (.int (nI (r))), none, none, none, none, none, none, none]) rfl rfl fun Θ hC hret => ?_
  have hag : ∀ a9 : Nat, (a9 < m + 8 ∨ m + 8 + 1 ≤ a9) → F a9 = F a9 := fun a9 _ => rfl
  obtain ⟨⟨q0, q1, q2, q3, q4, q5, q6, q7, q9⟩, qw, qd, qm, qf, qx, qb⟩ := id hr
  obtain ⟨⟨u1, u2, u3, u4, u5⟩, uw, ud, um, uo, ut, ux, ub, un9⟩ := id hA
  have hlp := (um p hp).2.2.1
  have hlr := (um r hq).2.2.1
  refine x_aload_n hC d_MessageCoderModel_common_0 rfl rfl ?_
  refine x_iload_n hC d_MessageCoderModel_common_1 rfl rfl ?_
  refine x_iconst hC d_MessageCoderModel_common_2 (v := nI 2) (by decide) ?_
  refine x_callV hC kv_MessageCoderModel_81 (c_MessageCoderModel_m (o0 := o0) (ga := ga) (hpw := by omega)) o0 rfl rfl (by decide) rfl rfl rfl (Nat.le_of_ble_eq_true rfl) (by decide) d_MessageCoderModel_common_3 (fun r9 F9 z9 hp9 => ?_)
  obtain ⟨rfl, h9b, h9c⟩ := hp9
  rw [h9b, h9c]
  clear h9b h9c F9 z9
  refine x_top (v := (nI ((A.2.2.1.2.2 p).2.2.1))) (congrArg nI (qm p hp).2.2.1) ?_
  refine x_istore_n hC d_MessageCoderModel_common_6 rfl (Nat.le_of_ble_eq_true rfl) (L1 := [some (.ref m), some (.int (nI (p))), some (.int (nI (r))), some (.int (nI ((A.2.2.1.2.2 p).2.2.1))), none, none, none, none, none, none]) rfl ?_
  refine x_aload_n hC d_MessageCoderModel_common_7 rfl rfl ?_
  refine x_iload_n hC d_MessageCoderModel_common_8 rfl rfl ?_
  refine x_iconst hC d_MessageCoderModel_common_9 (v := nI 2) (by decide) ?_
  refine x_callV hC kv_MessageCoderModel_81 (c_MessageCoderModel_m (o0 := o0) (ga := ga) (hpw := by omega)) o0 rfl rfl (by decide) rfl rfl rfl (Nat.le_of_ble_eq_true rfl) (by decide) d_MessageCoderModel_common_10 (fun r9 F9 z9 hp9 => ?_)
  obtain ⟨rfl, h9b, h9c⟩ := hp9
  rw [h9b, h9c]
  clear h9b h9c F9 z9
  refine x_top (v := (nI ((A.2.2.1.2.2 r).2.2.1))) (congrArg nI (qm r hq).2.2.1) ?_
  refine x_istore hC d_MessageCoderModel_common_13 (Nat.le_of_ble_eq_true rfl) (L1 := [some (.ref m), some (.int (nI (p))), some (.int (nI (r))), some (.int (nI ((A.2.2.1.2.2 p).2.2.1))), some (.int (nI ((A.2.2.1.2.2 r).2.2.1))), none, none, none, none, none]) rfl ?_
  refine x_iconst hC d_MessageCoderModel_common_15 (v := nI 0) (by decide) ?_
  refine x_istore hC d_MessageCoderModel_common_16 (Nat.le_of_ble_eq_true rfl) (L1 := [some (.ref m), some (.int (nI (p))), some (.int (nI (r))), some (.int (nI ((A.2.2.1.2.2 p).2.2.1))), some (.int (nI ((A.2.2.1.2.2 r).2.2.1))), some (.int (nI 0)), none, none, none, none]) rfl ?_
  have loop_18 : ∀ (m9 : Nat) (Fh18 : xF) (z5 : Nat) (b1 : Nat → Nat), (Fh18 (m) = some (.inl (10, [.int (nI (th)), .ref (m + 1), .int (nI (ch)), .int (nI (sv)), .int rs, .ref (m + 2), .ref (m + 3), .ref (m + 4), .ref (m + 5), .ref (m + 6), .int (nI (bm)), .ref (m + 7), .int (nI (dm)), .ref (m + 8), .ref (m + 9), .int (nI (lz)), .ref (m + 10), .int (nI (ty)), .int (nI (he)), .int er, .int ea, .int fa, .ref (m + 11), .int (nI (cn))]))) → (Fh18 (m + 1) = some (.inr (0, 4730, fun b9 => .int (nI (g b9))))) → (Fh18 (m + 8) = some (.inr (0, 17, fun b9 => .int (nI (b1 b9))))) → (∀ a9 : Nat, (a9 < m + 8 ∨ m + 8 + 1 ≤ a9) → Fh18 a9 = F a9) → (z5 ≤ (A.2.2.1.2.2 r).2.2.1 + 1) → (∀ j, j < z5 → b1 j = 0) → ((A.2.2.1.2.2 r).2.2.1 + 1 - z5 < m9) → xX P Θ 18 [some (.ref m), some (.int (nI (p))), some (.int (nI (r))), some (.int (nI ((A.2.2.1.2.2 p).2.2.1))), some (.int (nI ((A.2.2.1.2.2 r).2.2.1))), some (.int (nI (z5))), none, none, none, none] [] Fh18 (z) 0 0 := by
    intro m9
    induction m9 with
    | zero => intros; omega
    | succ m9 ih_18 =>
      intro Fh18 z5 b1 o0 ga h8 hag hz kz hm_18
      refine x_iload hC d_MessageCoderModel_common_18 rfl ?_
      refine x_iload hC d_MessageCoderModel_common_20 rfl ?_
      refine x_icmpN_gt hC d_MessageCoderModel_common_22 (tgt := 39) (by decide) (by omega) (by omega) (fun c_22 => ?_) (fun c_22 => ?_)
      · skip
        have k0 : ∀ j, j ≤ (A.2.2.1.2.2 r).2.2.1 → b1 j = lcs (A.2.2.1.2.2 p).2.2.2 (A.2.2.1.2.2 r).2.2.2 (0) (j) := fun j hj => (kz j (by omega)).trans (lcs_z _ _ _).symm
        refine x_iconst hC d_MessageCoderModel_common_39 (v := nI 0) (by decide) ?_
        refine x_istore hC d_MessageCoderModel_common_40 (Nat.le_of_ble_eq_true rfl) (L1 := [some (.ref m), some (.int (nI (p))), some (.int (nI (r))), some (.int (nI ((A.2.2.1.2.2 p).2.2.1))), some (.int (nI ((A.2.2.1.2.2 r).2.2.1))), some (.int (nI 0)), none, none, none, none]) rfl ?_
        have loop_42 : ∀ (m9 : Nat) (Fh42 : xF) (i : Nat) (b2 : Nat → Nat), (Fh42 (m) = some (.inl (10, [.int (nI (th)), .ref (m + 1), .int (nI (ch)), .int (nI (sv)), .int rs, .ref (m + 2), .ref (m + 3), .ref (m + 4), .ref (m + 5), .ref (m + 6), .int (nI (bm)), .ref (m + 7), .int (nI (dm)), .ref (m + 8), .ref (m + 9), .int (nI (lz)), .ref (m + 10), .int (nI (ty)), .int (nI (he)), .int er, .int ea, .int fa, .ref (m + 11), .int (nI (cn))]))) → (Fh42 (m + 1) = some (.inr (0, 4730, fun b9 => .int (nI (g b9))))) → (Fh42 (m + 8) = some (.inr (0, 17, fun b9 => .int (nI (b2 b9))))) → (∀ a9 : Nat, (a9 < m + 8 ∨ m + 8 + 1 ≤ a9) → Fh42 a9 = F a9) → (i ≤ (A.2.2.1.2.2 p).2.2.1) → (∀ j, j ≤ (A.2.2.1.2.2 r).2.2.1 → b2 j = lcs (A.2.2.1.2.2 p).2.2.2 (A.2.2.1.2.2 r).2.2.2 (i) (j)) → ((A.2.2.1.2.2 p).2.2.1 - i < m9) → xX P Θ 42 [some (.ref m), some (.int (nI (p))), some (.int (nI (r))), some (.int (nI ((A.2.2.1.2.2 p).2.2.1))), some (.int (nI ((A.2.2.1.2.2 r).2.2.1))), some (.int (nI (i))), none, none, none, none] [] Fh42 (z) 0 0 := by
          intro m9
          induction m9 with
          | zero => intros; omega
          | succ m9 ih_42 =>
            intro Fh42 i b2 o0 ga h8 hag hi k3 hm_42
            refine x_iload hC d_MessageCoderModel_common_42 rfl ?_
            refine x_iload_n hC d_MessageCoderModel_common_44 rfl rfl ?_
            refine x_icmpN_ge hC d_MessageCoderModel_common_45 (tgt := 185) (by decide) (by omega) (by omega) (fun c_45 => ?_) (fun c_45 => ?_)
            · skip
              refine x_aload_n hC d_MessageCoderModel_common_185 rfl rfl ?_
              refine x_getf hC kf_MessageCoderModel_31 o0 rfl d_MessageCoderModel_common_186 ?_
              refine x_iload hC d_MessageCoderModel_common_189 rfl ?_
              refine x_iald hC h8 (j := (A.2.2.1.2.2 r).2.2.1) ⟨rfl, by omega, by omega⟩ (x := nI (b2 ((A.2.2.1.2.2 r).2.2.1))) rfl d_MessageCoderModel_common_191 ?_
              exact hret _ _ _ _ _ _ _ d_MessageCoderModel_common_192 (by decide) (by decide) rfl (⟨b2, congrArg (fun q => some (Value.int (nI q))) ((k3 _ (Nat.le_refl _)).trans (by rw [show i = (A.2.2.1.2.2 p).2.2.1 by omega])), rfl, o0, ga, h8, hag⟩)
            · skip
              refine x_iconst hC d_MessageCoderModel_common_48 (v := nI 0) (by decide) ?_
              refine x_istore hC d_MessageCoderModel_common_49 (Nat.le_of_ble_eq_true rfl) (L1 := [some (.ref m), some (.int (nI (p))), some (.int (nI (r))), some (.int (nI ((A.2.2.1.2.2 p).2.2.1))), some (.int (nI ((A.2.2.1.2.2 r).2.2.1))), some (.int (nI (i))), some (.int (nI 0)), none, none, none]) rfl ?_
              refine x_iconst hC d_MessageCoderModel_common_51 (v := nI 1) (by decide) ?_
              refine x_istore hC d_MessageCoderModel_common_52 (Nat.le_of_ble_eq_true rfl) (L1 := [some (.ref m), some (.int (nI (p))), some (.int (nI (r))), some (.int (nI ((A.2.2.1.2.2 p).2.2.1))), some (.int (nI ((A.2.2.1.2.2 r).2.2.1))), some (.int (nI (i))), some (.int (nI 0)), some (.int (nI 1)), none, none]) rfl ?_
              have loop_54 : ∀ (m9 : Nat) (Fh54 : xF) (j : Nat) (dg : Nat) (b3 : Nat → Nat), (Fh54 (m) = some (.inl (10, [.int (nI (th)), .ref (m + 1), .int (nI (ch)), .int (nI (sv)), .int rs, .ref (m + 2), .ref (m + 3), .ref (m + 4), .ref (m + 5), .ref (m + 6), .int (nI (bm)), .ref (m + 7), .int (nI (dm)), .ref (m + 8), .ref (m + 9), .int (nI (lz)), .ref (m + 10), .int (nI (ty)), .int (nI (he)), .int er, .int ea, .int fa, .ref (m + 11), .int (nI (cn))]))) → (Fh54 (m + 1) = some (.inr (0, 4730, fun b9 => .int (nI (g b9))))) → (Fh54 (m + 8) = some (.inr (0, 17, fun b9 => .int (nI (b3 b9))))) → (∀ a9 : Nat, (a9 < m + 8 ∨ m + 8 + 1 ≤ a9) → Fh54 a9 = F a9) → (1 ≤ j ∧ j ≤ (A.2.2.1.2.2 r).2.2.1 + 1) → (dg = lcs (A.2.2.1.2.2 p).2.2.2 (A.2.2.1.2.2 r).2.2.2 (i) (j - 1)) → (∀ q, q < j → b3 q = lcs (A.2.2.1.2.2 p).2.2.2 (A.2.2.1.2.2 r).2.2.2 (i + 1) (q)) → (∀ q, j ≤ q → q ≤ (A.2.2.1.2.2 r).2.2.1 → b3 q = lcs (A.2.2.1.2.2 p).2.2.2 (A.2.2.1.2.2 r).2.2.2 (i) (q)) → ((A.2.2.1.2.2 r).2.2.1 + 1 - j < m9) → xX P Θ 54 [some (.ref m), some (.int (nI (p))), some (.int (nI (r))), some (.int (nI ((A.2.2.1.2.2 p).2.2.1))), some (.int (nI ((A.2.2.1.2.2 r).2.2.1))), some (.int (nI (i))), some (.int (nI (dg))), some (.int (nI (j))), none, none] [] Fh54 (z) 0 0 := by
                intro m9
                induction m9 with
                | zero => intros; omega
                | succ m9 ih_54 =>
                  intro Fh54 j dg b3 o0 ga h8 hag hj kd k1 k2 hm_54
                  refine x_iload hC d_MessageCoderModel_common_54 rfl ?_
                  refine x_iload hC d_MessageCoderModel_common_56 rfl ?_
                  refine x_icmpN_gt hC d_MessageCoderModel_common_58 (tgt := 179) (by decide) (by omega) (by omega) (fun c_58 => ?_) (fun c_58 => ?_)
                  · skip
                    refine x_iinc hC d_MessageCoderModel_common_179 rfl (v := (nI (i + 1))) (x_incN 1) (Nat.le_of_ble_eq_true rfl) (L1 := [some (.ref m), some (.int (nI (p))), some (.int (nI (r))), some (.int (nI ((A.2.2.1.2.2 p).2.2.1))), some (.int (nI ((A.2.2.1.2.2 r).2.2.1))), some (.int (nI (i + 1))), some (.int (nI (dg))), some (.int (nI (j))), none, none]) rfl ?_
                    refine x_goto hC d_MessageCoderModel_common_182 (tgt := 42) (by decide) ?_
                    refine x_forget (L1 := [some (.ref m), some (.int (nI (p))), some (.int (nI (r))), some (.int (nI ((A.2.2.1.2.2 p).2.2.1))), some (.int (nI ((A.2.2.1.2.2 r).2.2.1))), some (.int (nI (i + 1))), none, none, none, none]) ⟨Or.inr rfl, ⟨Or.inr rfl, ⟨Or.inr rfl, ⟨Or.inr rfl, ⟨Or.inr rfl, ⟨Or.inr rfl, ⟨Or.inl rfl, ⟨Or.inl rfl, ⟨Or.inl rfl, ⟨Or.inl rfl, trivial⟩⟩⟩⟩⟩⟩⟩⟩⟩⟩ ?_
                    exact ih_42 Fh54 (i + 1) (b3) o0 ga h8 hag (by omega) (fun q hq9 => k1 q (by omega)) (by omega)
                  · skip
                    refine x_aload_n hC d_MessageCoderModel_common_61 rfl rfl ?_
                    refine x_getf hC kf_MessageCoderModel_31 o0 rfl d_MessageCoderModel_common_62 ?_
                    refine x_iload hC d_MessageCoderModel_common_65 rfl ?_
                    refine x_iald hC h8 (j := j) ⟨rfl, by omega, by omega⟩ (x := nI (b3 (j))) rfl d_MessageCoderModel_common_67 ?_
                    refine x_istore hC d_MessageCoderModel_common_68 (Nat.le_of_ble_eq_true rfl) (L1 := [some (.ref m), some (.int (nI (p))), some (.int (nI (r))), some (.int (nI ((A.2.2.1.2.2 p).2.2.1))), some (.int (nI ((A.2.2.1.2.2 r).2.2.1))), some (.int (nI (i))), some (.int (nI (dg))), some (.int (nI (j))), some (.int (nI (b3 (j)))), none]) rfl ?_
                    refine x_aload_n hC d_MessageCoderModel_common_70 rfl rfl ?_
                    refine x_iload_n hC d_MessageCoderModel_common_71 rfl rfl ?_
                    refine x_iconst hC d_MessageCoderModel_common_72 (v := nI 3) (by decide) ?_
                    refine x_iload hC d_MessageCoderModel_common_73 rfl ?_
                    refine x_iadd hC d_MessageCoderModel_common_75 (v := (nI (3 + i))) (x_addN (by omega)) ?_
                    refine x_callV hC kv_MessageCoderModel_81 (c_MessageCoderModel_m (o0 := o0) (ga := ga) (hpw := by omega)) o0 rfl rfl (by decide) rfl rfl rfl (Nat.le_of_ble_eq_true rfl) (by decide) d_MessageCoderModel_common_76 (fun r9 F9 z9 hp9 => ?_)
                    obtain ⟨rfl, h9b, h9c⟩ := hp9
                    rw [h9b, h9c]
                    clear h9b h9c F9 z9
                    refine x_aload_n hC d_MessageCoderModel_common_79 rfl rfl ?_
                    refine x_iload_n hC d_MessageCoderModel_common_80 rfl rfl ?_
                    refine x_iconst hC d_MessageCoderModel_common_81 (v := nI 3) (by decide) ?_
                    refine x_iload hC d_MessageCoderModel_common_82 rfl ?_
                    refine x_iadd hC d_MessageCoderModel_common_84 (v := (nI (3 + j))) (x_addN (by omega)) ?_
                    refine x_iconst hC d_MessageCoderModel_common_85 (v := nI 1) (by decide) ?_
                    refine x_isub hC d_MessageCoderModel_common_86 (v := (nI ((3 + j) - 1))) (pk_sub (by omega)) ?_
                    refine x_callV hC kv_MessageCoderModel_81 (c_MessageCoderModel_m (o0 := o0) (ga := ga) (hpw := by omega)) o0 rfl rfl (by decide) rfl rfl rfl (Nat.le_of_ble_eq_true rfl) (by decide) d_MessageCoderModel_common_87 (fun r9 F9 z9 hp9 => ?_)
                    obtain ⟨rfl, h9b, h9c⟩ := hp9
                    rw [h9b, h9c]
                    clear h9b h9c F9 z9
                    have hsp : g (34 + 19 * p + (3 + i)) + 97 = (A.2.2.1.2.2 p).2.2.2 i := (qm p hp).2.2.2 i (by omega)
                    have hsr : g (34 + 19 * r + (3 + j - 1)) + 97 = (A.2.2.1.2.2 r).2.2.2 (j - 1) := by rw [show 34 + 19 * r + (3 + j - 1) = 34 + 19 * r + (3 + (j - 1)) by omega]; exact (qm r hq).2.2.2 (j - 1) (by omega)
                    obtain ⟨hs1, hs2⟩ : 97 ≤ (A.2.2.1.2.2 p).2.2.2 i ∧ (A.2.2.1.2.2 p).2.2.2 i < 105 := (um p hp).2.2.2 i (by omega)
                    obtain ⟨hs3, hs4⟩ : 97 ≤ (A.2.2.1.2.2 r).2.2.2 (j - 1) ∧ (A.2.2.1.2.2 r).2.2.2 (j - 1) < 105 := (um r hq).2.2.2 (j - 1) (by omega)
                    have hl1 := lcs_le (A.2.2.1.2.2 p).2.2.2 (A.2.2.1.2.2 r).2.2.2 i j
                    have hl2 := lcs_le (A.2.2.1.2.2 p).2.2.2 (A.2.2.1.2.2 r).2.2.2 (i + 1) (j - 1)
                    have hl3 := lcs_le (A.2.2.1.2.2 p).2.2.2 (A.2.2.1.2.2 r).2.2.2 i (j - 1)
                    have hbj : b3 j = lcs (A.2.2.1.2.2 p).2.2.2 (A.2.2.1.2.2 r).2.2.2 (i) (j) := k2 j (Nat.le_refl _) (by omega)
                    have hb1 : b3 (j - 1) = lcs (A.2.2.1.2.2 p).2.2.2 (A.2.2.1.2.2 r).2.2.2 (i + 1) (j - 1) := k1 (j - 1) (by omega)
                    refine x_icmpN_ne hC d_MessageCoderModel_common_90 (tgt := 100) (by decide) (by omega) (by omega) (fun c_90 => ?_) (fun c_90 => ?_)
                    · skip
                      refine x_iconst hC d_MessageCoderModel_common_100 (v := nI 0) (by decide) ?_
                      refine x_istore hC d_MessageCoderModel_common_101 (Nat.le_of_ble_eq_true rfl) (L1 := [some (.ref m), some (.int (nI (p))), some (.int (nI (r))), some (.int (nI ((A.2.2.1.2.2 p).2.2.1))), some (.int (nI ((A.2.2.1.2.2 r).2.2.1))), some (.int (nI (i))), some (.int (nI (dg))), some (.int (nI (j))), some (.int (nI (b3 (j)))), some (.int (nI 0))]) rfl ?_
                      refine x_aload_n hC d_MessageCoderModel_common_103 rfl rfl ?_
                      refine x_getf hC kf_MessageCoderModel_31 o0 rfl d_MessageCoderModel_common_104 ?_
                      refine x_iload hC d_MessageCoderModel_common_107 rfl ?_
                      refine x_iload hC d_MessageCoderModel_common_109 rfl ?_
                      refine x_iload hC d_MessageCoderModel_common_111 rfl ?_
                      refine x_icmpN_le hC d_MessageCoderModel_common_113 (tgt := 121) (by decide) (by omega) (by omega) (fun c_113 => ?_) (fun c_113 => ?_)
                      · skip
                        refine x_iload hC d_MessageCoderModel_common_121 rfl ?_
                        refine x_iast hC h8 (j := j) ⟨rfl, by omega, by omega⟩ d_MessageCoderModel_common_123 (g1 := fun b9 => nI (updN b3 (j) (b3 (j)) b9)) (x_updN _ _ _) ?_
                        generalize eba : updN b3 (j) (b3 (j)) = ba
                        generalize e2 : xup Fh54 (m + 8) (.inr (0, 17, fun b9 => .int (nI (ba b9)))) = F2
                        have o0 : F2 (m) = some (.inl (10, [.int (nI (th)), .ref (m + 1), .int (nI (ch)), .int (nI (sv)), .int rs, .ref (m + 2), .ref (m + 3), .ref (m + 4), .ref (m + 5), .ref (m + 6), .int (nI (bm)), .ref (m + 7), .int (nI (dm)), .ref (m + 8), .ref (m + 9), .int (nI (lz)), .ref (m + 10), .int (nI (ty)), .int (nI (he)), .int er, .int ea, .int fa, .ref (m + 11), .int (nI (cn))])) := by rw [← e2]; exact (xup_ne (by omega)).trans o0
                        have ga : F2 (m + 1) = some (.inr (0, 4730, fun b9 => .int (nI (g b9)))) := by rw [← e2]; exact (xup_ne (by omega)).trans ga
                        have h8 : F2 (m + 8) = some (.inr (0, 17, fun b9 => .int (nI (ba b9)))) := by rw [← e2]; exact xup_eq
                        have hag : ∀ a9 : Nat, (a9 < m + 8 ∨ m + 8 + 1 ≤ a9) → F2 a9 = F a9 := fun a9 q0 => by rw [← e2]; exact (xup_ne (by omega)).trans (hag a9 q0)
                        have hba := (congrFun eba.symm j).trans (updN_at rfl)
                        have hbb := (congrFun eba.symm (j - 1)).trans (updN_ne (by omega))
                        refine x_aload_n hC d_MessageCoderModel_common_124 rfl rfl ?_
                        refine x_getf hC kf_MessageCoderModel_31 o0 rfl d_MessageCoderModel_common_125 ?_
                        refine x_iload hC d_MessageCoderModel_common_128 rfl ?_
                        refine x_aload_n hC d_MessageCoderModel_common_130 rfl rfl ?_
                        refine x_getf hC kf_MessageCoderModel_31 o0 rfl d_MessageCoderModel_common_131 ?_
                        refine x_iload hC d_MessageCoderModel_common_134 rfl ?_
                        refine x_iconst hC d_MessageCoderModel_common_136 (v := nI 1) (by decide) ?_
                        refine x_isub hC d_MessageCoderModel_common_137 (v := (nI ((j) - 1))) (pk_sub (by omega)) ?_
                        refine x_iald hC h8 (j := (j) - 1) ⟨rfl, by omega, by omega⟩ (x := nI (ba ((j) - 1))) rfl d_MessageCoderModel_common_138 ?_
                        refine x_aload_n hC d_MessageCoderModel_common_139 rfl rfl ?_
                        refine x_getf hC kf_MessageCoderModel_31 o0 rfl d_MessageCoderModel_common_140 ?_
                        refine x_iload hC d_MessageCoderModel_common_143 rfl ?_
                        refine x_iald hC h8 (j := j) ⟨rfl, by omega, by omega⟩ (x := nI (ba (j))) rfl d_MessageCoderModel_common_145 ?_
                        refine x_icmpN_le hC d_MessageCoderModel_common_146 (tgt := 161) (by decide) (by omega) (by omega) (fun c_146 => ?_) (fun c_146 => ?_)
                        · skip
                          refine x_aload_n hC d_MessageCoderModel_common_161 rfl rfl ?_
                          refine x_getf hC kf_MessageCoderModel_31 o0 rfl d_MessageCoderModel_common_162 ?_
                          refine x_iload hC d_MessageCoderModel_common_165 rfl ?_
                          refine x_iald hC h8 (j := j) ⟨rfl, by omega, by omega⟩ (x := nI (ba (j))) rfl d_MessageCoderModel_common_167 ?_
                          refine x_iast hC h8 (j := j) ⟨rfl, by omega, by omega⟩ d_MessageCoderModel_common_168 (g1 := fun b9 => nI (updN ba (j) (ba (j)) b9)) (x_updN _ _ _) ?_
                          generalize ebb : updN ba (j) (ba (j)) = bb
                          generalize e4 : xup F2 (m + 8) (.inr (0, 17, fun b9 => .int (nI (bb b9)))) = F4
                          have o0 : F4 (m) = some (.inl (10, [.int (nI (th)), .ref (m + 1), .int (nI (ch)), .int (nI (sv)), .int rs, .ref (m + 2), .ref (m + 3), .ref (m + 4), .ref (m + 5), .ref (m + 6), .int (nI (bm)), .ref (m + 7), .int (nI (dm)), .ref (m + 8), .ref (m + 9), .int (nI (lz)), .ref (m + 10), .int (nI (ty)), .int (nI (he)), .int er, .int ea, .int fa, .ref (m + 11), .int (nI (cn))])) := by rw [← e4]; exact (xup_ne (by omega)).trans o0
                          have ga : F4 (m + 1) = some (.inr (0, 4730, fun b9 => .int (nI (g b9)))) := by rw [← e4]; exact (xup_ne (by omega)).trans ga
                          have h8 : F4 (m + 8) = some (.inr (0, 17, fun b9 => .int (nI (bb b9)))) := by rw [← e4]; exact xup_eq
                          have hag : ∀ a9 : Nat, (a9 < m + 8 ∨ m + 8 + 1 ≤ a9) → F4 a9 = F a9 := fun a9 q0 => by rw [← e4]; exact (xup_ne (by omega)).trans (hag a9 q0)
                          have hbv := (congrFun ebb.symm j).trans (updN_at rfl)
                          have hv : bb j = lcs (A.2.2.1.2.2 p).2.2.2 (A.2.2.1.2.2 r).2.2.2 (i + 1) (j) := lcs_max _ _ hj.1 (by omega) (by omega) (fun e => by omega) (by first | (exact Or.inl (by omega)) | (exact Or.inr (Or.inl (by omega))) | (exact Or.inr (Or.inr ⟨by omega, by omega⟩)) | omega)
                          have ho : ∀ q, q ≠ j → bb q = b3 q := fun q hq9 => by rw [← ebb, updN_ne hq9, ← eba, updN_ne hq9]
                          refine x_iload hC d_MessageCoderModel_common_169 rfl ?_
                          refine x_istore hC d_MessageCoderModel_common_171 (Nat.le_of_ble_eq_true rfl) (L1 := [some (.ref m), some (.int (nI (p))), some (.int (nI (r))), some (.int (nI ((A.2.2.1.2.2 p).2.2.1))), some (.int (nI ((A.2.2.1.2.2 r).2.2.1))), some (.int (nI (i))), some (.int (nI (b3 (j)))), some (.int (nI (j))), some (.int (nI (b3 (j)))), some (.int (nI 0))]) rfl ?_
                          refine x_iinc hC d_MessageCoderModel_common_173 rfl (v := (nI (j + 1))) (x_incN 1) (Nat.le_of_ble_eq_true rfl) (L1 := [some (.ref m), some (.int (nI (p))), some (.int (nI (r))), some (.int (nI ((A.2.2.1.2.2 p).2.2.1))), some (.int (nI ((A.2.2.1.2.2 r).2.2.1))), some (.int (nI (i))), some (.int (nI (b3 (j)))), some (.int (nI (j + 1))), some (.int (nI (b3 (j)))), some (.int (nI 0))]) rfl ?_
                          refine x_goto hC d_MessageCoderModel_common_176 (tgt := 54) (by decide) ?_
                          refine x_forget (L1 := [some (.ref m), some (.int (nI (p))), some (.int (nI (r))), some (.int (nI ((A.2.2.1.2.2 p).2.2.1))), some (.int (nI ((A.2.2.1.2.2 r).2.2.1))), some (.int (nI (i))), some (.int (nI (b3 (j)))), some (.int (nI (j + 1))), none, none]) ⟨Or.inr rfl, ⟨Or.inr rfl, ⟨Or.inr rfl, ⟨Or.inr rfl, ⟨Or.inr rfl, ⟨Or.inr rfl, ⟨Or.inr rfl, ⟨Or.inr rfl, ⟨Or.inl rfl, ⟨Or.inl rfl, trivial⟩⟩⟩⟩⟩⟩⟩⟩⟩⟩ ?_
                          exact ih_54 F4 (j + 1) (b3 (j)) (bb) o0 ga h8 hag (by omega) (by rw [show j + 1 - 1 = j by omega]; exact hbj) (fun q hq9 => (Decidable.em (q = j)).elim (fun e => by rw [e]; exact hv) (fun e => (ho q e).trans (k1 q (by omega)))) (fun q h1 h2 => (ho q (by omega)).trans (k2 q (by omega) h2)) (by omega)
                        · skip
                          refine x_aload_n hC d_MessageCoderModel_common_149 rfl rfl ?_
                          refine x_getf hC kf_MessageCoderModel_31 o0 rfl d_MessageCoderModel_common_150 ?_
                          refine x_iload hC d_MessageCoderModel_common_153 rfl ?_
                          refine x_iconst hC d_MessageCoderModel_common_155 (v := nI 1) (by decide) ?_
                          refine x_isub hC d_MessageCoderModel_common_156 (v := (nI ((j) - 1))) (pk_sub (by omega)) ?_
                          refine x_iald hC h8 (j := (j) - 1) ⟨rfl, by omega, by omega⟩ (x := nI (ba ((j) - 1))) rfl d_MessageCoderModel_common_157 ?_
                          refine x_goto hC d_MessageCoderModel_common_158 (tgt := 168) (by decide) ?_
                          refine x_iast hC h8 (j := j) ⟨rfl, by omega, by omega⟩ d_MessageCoderModel_common_168 (g1 := fun b9 => nI (updN ba (j) (ba ((j) - 1)) b9)) (x_updN _ _ _) ?_
                          generalize ebb : updN ba (j) (ba ((j) - 1)) = bb
                          generalize e6 : xup F2 (m + 8) (.inr (0, 17, fun b9 => .int (nI (bb b9)))) = F6
                          have o0 : F6 (m) = some (.inl (10, [.int (nI (th)), .ref (m + 1), .int (nI (ch)), .int (nI (sv)), .int rs, .ref (m + 2), .ref (m + 3), .ref (m + 4), .ref (m + 5), .ref (m + 6), .int (nI (bm)), .ref (m + 7), .int (nI (dm)), .ref (m + 8), .ref (m + 9), .int (nI (lz)), .ref (m + 10), .int (nI (ty)), .int (nI (he)), .int er, .int ea, .int fa, .ref (m + 11), .int (nI (cn))])) := by rw [← e6]; exact (xup_ne (by omega)).trans o0
                          have ga : F6 (m + 1) = some (.inr (0, 4730, fun b9 => .int (nI (g b9)))) := by rw [← e6]; exact (xup_ne (by omega)).trans ga
                          have h8 : F6 (m + 8) = some (.inr (0, 17, fun b9 => .int (nI (bb b9)))) := by rw [← e6]; exact xup_eq
                          have hag : ∀ a9 : Nat, (a9 < m + 8 ∨ m + 8 + 1 ≤ a9) → F6 a9 = F a9 := fun a9 q0 => by rw [← e6]; exact (xup_ne (by omega)).trans (hag a9 q0)
                          have hbv := (congrFun ebb.symm j).trans (updN_at rfl)
                          have hv : bb j = lcs (A.2.2.1.2.2 p).2.2.2 (A.2.2.1.2.2 r).2.2.2 (i + 1) (j) := lcs_max _ _ hj.1 (by omega) (by omega) (fun e => by omega) (by first | (exact Or.inl (by omega)) | (exact Or.inr (Or.inl (by omega))) | (exact Or.inr (Or.inr ⟨by omega, by omega⟩)) | omega)
                          have ho : ∀ q, q ≠ j → bb q = b3 q := fun q hq9 => by rw [← ebb, updN_ne hq9, ← eba, updN_ne hq9]
                          refine x_iload hC d_MessageCoderModel_common_169 rfl ?_
                          refine x_istore hC d_MessageCoderModel_common_171 (Nat.le_of_ble_eq_true rfl) (L1 := [some (.ref m), some (.int (nI (p))), some (.int (nI (r))), some (.int (nI ((A.2.2.1.2.2 p).2.2.1))), some (.int (nI ((A.2.2.1.2.2 r).2.2.1))), some (.int (nI (i))), some (.int (nI (b3 (j)))), some (.int (nI (j))), some (.int (nI (b3 (j)))), some (.int (nI 0))]) rfl ?_
                          refine x_iinc hC d_MessageCoderModel_common_173 rfl (v := (nI (j + 1))) (x_incN 1) (Nat.le_of_ble_eq_true rfl) (L1 := [some (.ref m), some (.int (nI (p))), some (.int (nI (r))), some (.int (nI ((A.2.2.1.2.2 p).2.2.1))), some (.int (nI ((A.2.2.1.2.2 r).2.2.1))), some (.int (nI (i))), some (.int (nI (b3 (j)))), some (.int (nI (j + 1))), some (.int (nI (b3 (j)))), some (.int (nI 0))]) rfl ?_
                          refine x_goto hC d_MessageCoderModel_common_176 (tgt := 54) (by decide) ?_
                          refine x_forget (L1 := [some (.ref m), some (.int (nI (p))), some (.int (nI (r))), some (.int (nI ((A.2.2.1.2.2 p).2.2.1))), some (.int (nI ((A.2.2.1.2.2 r).2.2.1))), some (.int (nI (i))), some (.int (nI (b3 (j)))), some (.int (nI (j + 1))), none, none]) ⟨Or.inr rfl, ⟨Or.inr rfl, ⟨Or.inr rfl, ⟨Or.inr rfl, ⟨Or.inr rfl, ⟨Or.inr rfl, ⟨Or.inr rfl, ⟨Or.inr rfl, ⟨Or.inl rfl, ⟨Or.inl rfl, trivial⟩⟩⟩⟩⟩⟩⟩⟩⟩⟩ ?_
                          exact ih_54 F6 (j + 1) (b3 (j)) (bb) o0 ga h8 hag (by omega) (by rw [show j + 1 - 1 = j by omega]; exact hbj) (fun q hq9 => (Decidable.em (q = j)).elim (fun e => by rw [e]; exact hv) (fun e => (ho q e).trans (k1 q (by omega)))) (fun q h1 h2 => (ho q (by omega)).trans (k2 q (by omega) h2)) (by omega)
                      · skip
                        refine x_iload hC d_MessageCoderModel_common_116 rfl ?_
                        refine x_goto hC d_MessageCoderModel_common_118 (tgt := 123) (by decide) ?_
                        refine x_iast hC h8 (j := j) ⟨rfl, by omega, by omega⟩ d_MessageCoderModel_common_123 (g1 := fun b9 => nI (updN b3 (j) (0) b9)) (x_updN _ _ _) ?_
                        generalize eba : updN b3 (j) (0) = ba
                        generalize e8 : xup Fh54 (m + 8) (.inr (0, 17, fun b9 => .int (nI (ba b9)))) = F8
                        have o0 : F8 (m) = some (.inl (10, [.int (nI (th)), .ref (m + 1), .int (nI (ch)), .int (nI (sv)), .int rs, .ref (m + 2), .ref (m + 3), .ref (m + 4), .ref (m + 5), .ref (m + 6), .int (nI (bm)), .ref (m + 7), .int (nI (dm)), .ref (m + 8), .ref (m + 9), .int (nI (lz)), .ref (m + 10), .int (nI (ty)), .int (nI (he)), .int er, .int ea, .int fa, .ref (m + 11), .int (nI (cn))])) := by rw [← e8]; exact (xup_ne (by omega)).trans o0
                        have ga : F8 (m + 1) = some (.inr (0, 4730, fun b9 => .int (nI (g b9)))) := by rw [← e8]; exact (xup_ne (by omega)).trans ga
                        have h8 : F8 (m + 8) = some (.inr (0, 17, fun b9 => .int (nI (ba b9)))) := by rw [← e8]; exact xup_eq
                        have hag : ∀ a9 : Nat, (a9 < m + 8 ∨ m + 8 + 1 ≤ a9) → F8 a9 = F a9 := fun a9 q0 => by rw [← e8]; exact (xup_ne (by omega)).trans (hag a9 q0)
                        have hba := (congrFun eba.symm j).trans (updN_at rfl)
                        have hbb := (congrFun eba.symm (j - 1)).trans (updN_ne (by omega))
                        refine x_aload_n hC d_MessageCoderModel_common_124 rfl rfl ?_
                        refine x_getf hC kf_MessageCoderModel_31 o0 rfl d_MessageCoderModel_common_125 ?_
                        refine x_iload hC d_MessageCoderModel_common_128 rfl ?_
                        refine x_aload_n hC d_MessageCoderModel_common_130 rfl rfl ?_
                        refine x_getf hC kf_MessageCoderModel_31 o0 rfl d_MessageCoderModel_common_131 ?_
                        refine x_iload hC d_MessageCoderModel_common_134 rfl ?_
                        refine x_iconst hC d_MessageCoderModel_common_136 (v := nI 1) (by decide) ?_
                        refine x_isub hC d_MessageCoderModel_common_137 (v := (nI ((j) - 1))) (pk_sub (by omega)) ?_
                        refine x_iald hC h8 (j := (j) - 1) ⟨rfl, by omega, by omega⟩ (x := nI (ba ((j) - 1))) rfl d_MessageCoderModel_common_138 ?_
                        refine x_aload_n hC d_MessageCoderModel_common_139 rfl rfl ?_
                        refine x_getf hC kf_MessageCoderModel_31 o0 rfl d_MessageCoderModel_common_140 ?_
                        refine x_iload hC d_MessageCoderModel_common_143 rfl ?_
                        refine x_iald hC h8 (j := j) ⟨rfl, by omega, by omega⟩ (x := nI (ba (j))) rfl d_MessageCoderModel_common_145 ?_
                        refine x_icmpN_le hC d_MessageCoderModel_common_146 (tgt := 161) (by decide) (by omega) (by omega) (fun c_146 => ?_) (fun c_146 => ?_)
                        · skip
                          refine x_aload_n hC d_MessageCoderModel_common_161 rfl rfl ?_
                          refine x_getf hC kf_MessageCoderModel_31 o0 rfl d_MessageCoderModel_common_162 ?_
                          refine x_iload hC d_MessageCoderModel_common_165 rfl ?_
                          refine x_iald hC h8 (j := j) ⟨rfl, by omega, by omega⟩ (x := nI (ba (j))) rfl d_MessageCoderModel_common_167 ?_
                          refine x_iast hC h8 (j := j) ⟨rfl, by omega, by omega⟩ d_MessageCoderModel_common_168 (g1 := fun b9 => nI (updN ba (j) (ba (j)) b9)) (x_updN _ _ _) ?_
                          generalize ebb : updN ba (j) (ba (j)) = bb
                          generalize e10 : xup F8 (m + 8) (.inr (0, 17, fun b9 => .int (nI (bb b9)))) = F10
                          have o0 : F10 (m) = some (.inl (10, [.int (nI (th)), .ref (m + 1), .int (nI (ch)), .int (nI (sv)), .int rs, .ref (m + 2), .ref (m + 3), .ref (m + 4), .ref (m + 5), .ref (m + 6), .int (nI (bm)), .ref (m + 7), .int (nI (dm)), .ref (m + 8), .ref (m + 9), .int (nI (lz)), .ref (m + 10), .int (nI (ty)), .int (nI (he)), .int er, .int ea, .int fa, .ref (m + 11), .int (nI (cn))])) := by rw [← e10]; exact (xup_ne (by omega)).trans o0
                          have ga : F10 (m + 1) = some (.inr (0, 4730, fun b9 => .int (nI (g b9)))) := by rw [← e10]; exact (xup_ne (by omega)).trans ga
                          have h8 : F10 (m + 8) = some (.inr (0, 17, fun b9 => .int (nI (bb b9)))) := by rw [← e10]; exact xup_eq
                          have hag : ∀ a9 : Nat, (a9 < m + 8 ∨ m + 8 + 1 ≤ a9) → F10 a9 = F a9 := fun a9 q0 => by rw [← e10]; exact (xup_ne (by omega)).trans (hag a9 q0)
                          have hbv := (congrFun ebb.symm j).trans (updN_at rfl)
                          have hv : bb j = lcs (A.2.2.1.2.2 p).2.2.2 (A.2.2.1.2.2 r).2.2.2 (i + 1) (j) := lcs_max _ _ hj.1 (by omega) (by omega) (fun e => by omega) (by first | (exact Or.inl (by omega)) | (exact Or.inr (Or.inl (by omega))) | (exact Or.inr (Or.inr ⟨by omega, by omega⟩)) | omega)
                          have ho : ∀ q, q ≠ j → bb q = b3 q := fun q hq9 => by rw [← ebb, updN_ne hq9, ← eba, updN_ne hq9]
                          refine x_iload hC d_MessageCoderModel_common_169 rfl ?_
                          refine x_istore hC d_MessageCoderModel_common_171 (Nat.le_of_ble_eq_true rfl) (L1 := [some (.ref m), some (.int (nI (p))), some (.int (nI (r))), some (.int (nI ((A.2.2.1.2.2 p).2.2.1))), some (.int (nI ((A.2.2.1.2.2 r).2.2.1))), some (.int (nI (i))), some (.int (nI (b3 (j)))), some (.int (nI (j))), some (.int (nI (b3 (j)))), some (.int (nI 0))]) rfl ?_
                          refine x_iinc hC d_MessageCoderModel_common_173 rfl (v := (nI (j + 1))) (x_incN 1) (Nat.le_of_ble_eq_true rfl) (L1 := [some (.ref m), some (.int (nI (p))), some (.int (nI (r))), some (.int (nI ((A.2.2.1.2.2 p).2.2.1))), some (.int (nI ((A.2.2.1.2.2 r).2.2.1))), some (.int (nI (i))), some (.int (nI (b3 (j)))), some (.int (nI (j + 1))), some (.int (nI (b3 (j)))), some (.int (nI 0))]) rfl ?_
                          refine x_goto hC d_MessageCoderModel_common_176 (tgt := 54) (by decide) ?_
                          refine x_forget (L1 := [some (.ref m), some (.int (nI (p))), some (.int (nI (r))), some (.int (nI ((A.2.2.1.2.2 p).2.2.1))), some (.int (nI ((A.2.2.1.2.2 r).2.2.1))), some (.int (nI (i))), some (.int (nI (b3 (j)))), some (.int (nI (j + 1))), none, none]) ⟨Or.inr rfl, ⟨Or.inr rfl, ⟨Or.inr rfl, ⟨Or.inr rfl, ⟨Or.inr rfl, ⟨Or.inr rfl, ⟨Or.inr rfl, ⟨Or.inr rfl, ⟨Or.inl rfl, ⟨Or.inl rfl, trivial⟩⟩⟩⟩⟩⟩⟩⟩⟩⟩ ?_
                          exact ih_54 F10 (j + 1) (b3 (j)) (bb) o0 ga h8 hag (by omega) (by rw [show j + 1 - 1 = j by omega]; exact hbj) (fun q hq9 => (Decidable.em (q = j)).elim (fun e => by rw [e]; exact hv) (fun e => (ho q e).trans (k1 q (by omega)))) (fun q h1 h2 => (ho q (by omega)).trans (k2 q (by omega) h2)) (by omega)
                        · skip
                          refine x_aload_n hC d_MessageCoderModel_common_149 rfl rfl ?_
                          refine x_getf hC kf_MessageCoderModel_31 o0 rfl d_MessageCoderModel_common_150 ?_
                          refine x_iload hC d_MessageCoderModel_common_153 rfl ?_
                          refine x_iconst hC d_MessageCoderModel_common_155 (v := nI 1) (by decide) ?_
                          refine x_isub hC d_MessageCoderModel_common_156 (v := (nI ((j) - 1))) (pk_sub (by omega)) ?_
                          refine x_iald hC h8 (j := (j) - 1) ⟨rfl, by omega, by omega⟩ (x := nI (ba ((j) - 1))) rfl d_MessageCoderModel_common_157 ?_
                          refine x_goto hC d_MessageCoderModel_common_158 (tgt := 168) (by decide) ?_
                          refine x_iast hC h8 (j := j) ⟨rfl, by omega, by omega⟩ d_MessageCoderModel_common_168 (g1 := fun b9 => nI (updN ba (j) (ba ((j) - 1)) b9)) (x_updN _ _ _) ?_
                          generalize ebb : updN ba (j) (ba ((j) - 1)) = bb
                          generalize e12 : xup F8 (m + 8) (.inr (0, 17, fun b9 => .int (nI (bb b9)))) = F12
                          have o0 : F12 (m) = some (.inl (10, [.int (nI (th)), .ref (m + 1), .int (nI (ch)), .int (nI (sv)), .int rs, .ref (m + 2), .ref (m + 3), .ref (m + 4), .ref (m + 5), .ref (m + 6), .int (nI (bm)), .ref (m + 7), .int (nI (dm)), .ref (m + 8), .ref (m + 9), .int (nI (lz)), .ref (m + 10), .int (nI (ty)), .int (nI (he)), .int er, .int ea, .int fa, .ref (m + 11), .int (nI (cn))])) := by rw [← e12]; exact (xup_ne (by omega)).trans o0
                          have ga : F12 (m + 1) = some (.inr (0, 4730, fun b9 => .int (nI (g b9)))) := by rw [← e12]; exact (xup_ne (by omega)).trans ga
                          have h8 : F12 (m + 8) = some (.inr (0, 17, fun b9 => .int (nI (bb b9)))) := by rw [← e12]; exact xup_eq
                          have hag : ∀ a9 : Nat, (a9 < m + 8 ∨ m + 8 + 1 ≤ a9) → F12 a9 = F a9 := fun a9 q0 => by rw [← e12]; exact (xup_ne (by omega)).trans (hag a9 q0)
                          have hbv := (congrFun ebb.symm j).trans (updN_at rfl)
                          have hv : bb j = lcs (A.2.2.1.2.2 p).2.2.2 (A.2.2.1.2.2 r).2.2.2 (i + 1) (j) := lcs_max _ _ hj.1 (by omega) (by omega) (fun e => by omega) (by first | (exact Or.inl (by omega)) | (exact Or.inr (Or.inl (by omega))) | (exact Or.inr (Or.inr ⟨by omega, by omega⟩)) | omega)
                          have ho : ∀ q, q ≠ j → bb q = b3 q := fun q hq9 => by rw [← ebb, updN_ne hq9, ← eba, updN_ne hq9]
                          refine x_iload hC d_MessageCoderModel_common_169 rfl ?_
                          refine x_istore hC d_MessageCoderModel_common_171 (Nat.le_of_ble_eq_true rfl) (L1 := [some (.ref m), some (.int (nI (p))), some (.int (nI (r))), some (.int (nI ((A.2.2.1.2.2 p).2.2.1))), some (.int (nI ((A.2.2.1.2.2 r).2.2.1))), some (.int (nI (i))), some (.int (nI (b3 (j)))), some (.int (nI (j))), some (.int (nI (b3 (j)))), some (.int (nI 0))]) rfl ?_
                          refine x_iinc hC d_MessageCoderModel_common_173 rfl (v := (nI (j + 1))) (x_incN 1) (Nat.le_of_ble_eq_true rfl) (L1 := [some (.ref m), some (.int (nI (p))), some (.int (nI (r))), some (.int (nI ((A.2.2.1.2.2 p).2.2.1))), some (.int (nI ((A.2.2.1.2.2 r).2.2.1))), some (.int (nI (i))), some (.int (nI (b3 (j)))), some (.int (nI (j + 1))), some (.int (nI (b3 (j)))), some (.int (nI 0))]) rfl ?_
                          refine x_goto hC d_MessageCoderModel_common_176 (tgt := 54) (by decide) ?_
                          refine x_forget (L1 := [some (.ref m), some (.int (nI (p))), some (.int (nI (r))), some (.int (nI ((A.2.2.1.2.2 p).2.2.1))), some (.int (nI ((A.2.2.1.2.2 r).2.2.1))), some (.int (nI (i))), some (.int (nI (b3 (j)))), some (.int (nI (j + 1))), none, none]) ⟨Or.inr rfl, ⟨Or.inr rfl, ⟨Or.inr rfl, ⟨Or.inr rfl, ⟨Or.inr rfl, ⟨Or.inr rfl, ⟨Or.inr rfl, ⟨Or.inr rfl, ⟨Or.inl rfl, ⟨Or.inl rfl, trivial⟩⟩⟩⟩⟩⟩⟩⟩⟩⟩ ?_
                          exact ih_54 F12 (j + 1) (b3 (j)) (bb) o0 ga h8 hag (by omega) (by rw [show j + 1 - 1 = j by omega]; exact hbj) (fun q hq9 => (Decidable.em (q = j)).elim (fun e => by rw [e]; exact hv) (fun e => (ho q e).trans (k1 q (by omega)))) (fun q h1 h2 => (ho q (by omega)).trans (k2 q (by omega) h2)) (by omega)
                    · skip
                      refine x_iload hC d_MessageCoderModel_common_93 rfl ?_
                      refine x_iconst hC d_MessageCoderModel_common_95 (v := nI 1) (by decide) ?_
                      refine x_iadd hC d_MessageCoderModel_common_96 (v := (nI (dg + 1))) (x_addN (by omega)) ?_
                      refine x_goto hC d_MessageCoderModel_common_97 (tgt := 101) (by decide) ?_
                      refine x_istore hC d_MessageCoderModel_common_101 (Nat.le_of_ble_eq_true rfl) (L1 := [some (.ref m), some (.int (nI (p))), some (.int (nI (r))), some (.int (nI ((A.2.2.1.2.2 p).2.2.1))), some (.int (nI ((A.2.2.1.2.2 r).2.2.1))), some (.int (nI (i))), some (.int (nI (dg))), some (.int (nI (j))), some (.int (nI (b3 (j)))), some (.int (nI (dg + 1)))]) rfl ?_
                      refine x_aload_n hC d_MessageCoderModel_common_103 rfl rfl ?_
                      refine x_getf hC kf_MessageCoderModel_31 o0 rfl d_MessageCoderModel_common_104 ?_
                      refine x_iload hC d_MessageCoderModel_common_107 rfl ?_
                      refine x_iload hC d_MessageCoderModel_common_109 rfl ?_
                      refine x_iload hC d_MessageCoderModel_common_111 rfl ?_
                      refine x_icmpN_le hC d_MessageCoderModel_common_113 (tgt := 121) (by decide) (by omega) (by omega) (fun c_113 => ?_) (fun c_113 => ?_)
                      · skip
                        refine x_iload hC d_MessageCoderModel_common_121 rfl ?_
                        refine x_iast hC h8 (j := j) ⟨rfl, by omega, by omega⟩ d_MessageCoderModel_common_123 (g1 := fun b9 => nI (updN b3 (j) (b3 (j)) b9)) (x_updN _ _ _) ?_
                        generalize eba : updN b3 (j) (b3 (j)) = ba
                        generalize e14 : xup Fh54 (m + 8) (.inr (0, 17, fun b9 => .int (nI (ba b9)))) = F14
                        have o0 : F14 (m) = some (.inl (10, [.int (nI (th)), .ref (m + 1), .int (nI (ch)), .int (nI (sv)), .int rs, .ref (m + 2), .ref (m + 3), .ref (m + 4), .ref (m + 5), .ref (m + 6), .int (nI (bm)), .ref (m + 7), .int (nI (dm)), .ref (m + 8), .ref (m + 9), .int (nI (lz)), .ref (m + 10), .int (nI (ty)), .int (nI (he)), .int er, .int ea, .int fa, .ref (m + 11), .int (nI (cn))])) := by rw [← e14]; exact (xup_ne (by omega)).trans o0
                        have ga : F14 (m + 1) = some (.inr (0, 4730, fun b9 => .int (nI (g b9)))) := by rw [← e14]; exact (xup_ne (by omega)).trans ga
                        have h8 : F14 (m + 8) = some (.inr (0, 17, fun b9 => .int (nI (ba b9)))) := by rw [← e14]; exact xup_eq
                        have hag : ∀ a9 : Nat, (a9 < m + 8 ∨ m + 8 + 1 ≤ a9) → F14 a9 = F a9 := fun a9 q0 => by rw [← e14]; exact (xup_ne (by omega)).trans (hag a9 q0)
                        have hba := (congrFun eba.symm j).trans (updN_at rfl)
                        have hbb := (congrFun eba.symm (j - 1)).trans (updN_ne (by omega))
                        refine x_aload_n hC d_MessageCoderModel_common_124 rfl rfl ?_
                        refine x_getf hC kf_MessageCoderModel_31 o0 rfl d_MessageCoderModel_common_125 ?_
                        refine x_iload hC d_MessageCoderModel_common_128 rfl ?_
                        refine x_aload_n hC d_MessageCoderModel_common_130 rfl rfl ?_
                        refine x_getf hC kf_MessageCoderModel_31 o0 rfl d_MessageCoderModel_common_131 ?_
                        refine x_iload hC d_MessageCoderModel_common_134 rfl ?_
                        refine x_iconst hC d_MessageCoderModel_common_136 (v := nI 1) (by decide) ?_
                        refine x_isub hC d_MessageCoderModel_common_137 (v := (nI ((j) - 1))) (pk_sub (by omega)) ?_
                        refine x_iald hC h8 (j := (j) - 1) ⟨rfl, by omega, by omega⟩ (x := nI (ba ((j) - 1))) rfl d_MessageCoderModel_common_138 ?_
                        refine x_aload_n hC d_MessageCoderModel_common_139 rfl rfl ?_
                        refine x_getf hC kf_MessageCoderModel_31 o0 rfl d_MessageCoderModel_common_140 ?_
                        refine x_iload hC d_MessageCoderModel_common_143 rfl ?_
                        refine x_iald hC h8 (j := j) ⟨rfl, by omega, by omega⟩ (x := nI (ba (j))) rfl d_MessageCoderModel_common_145 ?_
                        refine x_icmpN_le hC d_MessageCoderModel_common_146 (tgt := 161) (by decide) (by omega) (by omega) (fun c_146 => ?_) (fun c_146 => ?_)
                        · skip
                          refine x_aload_n hC d_MessageCoderModel_common_161 rfl rfl ?_
                          refine x_getf hC kf_MessageCoderModel_31 o0 rfl d_MessageCoderModel_common_162 ?_
                          refine x_iload hC d_MessageCoderModel_common_165 rfl ?_
                          refine x_iald hC h8 (j := j) ⟨rfl, by omega, by omega⟩ (x := nI (ba (j))) rfl d_MessageCoderModel_common_167 ?_
                          refine x_iast hC h8 (j := j) ⟨rfl, by omega, by omega⟩ d_MessageCoderModel_common_168 (g1 := fun b9 => nI (updN ba (j) (ba (j)) b9)) (x_updN _ _ _) ?_
                          generalize ebb : updN ba (j) (ba (j)) = bb
                          generalize e16 : xup F14 (m + 8) (.inr (0, 17, fun b9 => .int (nI (bb b9)))) = F16
                          have o0 : F16 (m) = some (.inl (10, [.int (nI (th)), .ref (m + 1), .int (nI (ch)), .int (nI (sv)), .int rs, .ref (m + 2), .ref (m + 3), .ref (m + 4), .ref (m + 5), .ref (m + 6), .int (nI (bm)), .ref (m + 7), .int (nI (dm)), .ref (m + 8), .ref (m + 9), .int (nI (lz)), .ref (m + 10), .int (nI (ty)), .int (nI (he)), .int er, .int ea, .int fa, .ref (m + 11), .int (nI (cn))])) := by rw [← e16]; exact (xup_ne (by omega)).trans o0
                          have ga : F16 (m + 1) = some (.inr (0, 4730, fun b9 => .int (nI (g b9)))) := by rw [← e16]; exact (xup_ne (by omega)).trans ga
                          have h8 : F16 (m + 8) = some (.inr (0, 17, fun b9 => .int (nI (bb b9)))) := by rw [← e16]; exact xup_eq
                          have hag : ∀ a9 : Nat, (a9 < m + 8 ∨ m + 8 + 1 ≤ a9) → F16 a9 = F a9 := fun a9 q0 => by rw [← e16]; exact (xup_ne (by omega)).trans (hag a9 q0)
                          have hbv := (congrFun ebb.symm j).trans (updN_at rfl)
                          have hv : bb j = lcs (A.2.2.1.2.2 p).2.2.2 (A.2.2.1.2.2 r).2.2.2 (i + 1) (j) := lcs_max _ _ hj.1 (by omega) (by omega) (fun e => by omega) (by first | (exact Or.inl (by omega)) | (exact Or.inr (Or.inl (by omega))) | (exact Or.inr (Or.inr ⟨by omega, by omega⟩)) | omega)
                          have ho : ∀ q, q ≠ j → bb q = b3 q := fun q hq9 => by rw [← ebb, updN_ne hq9, ← eba, updN_ne hq9]
                          refine x_iload hC d_MessageCoderModel_common_169 rfl ?_
                          refine x_istore hC d_MessageCoderModel_common_171 (Nat.le_of_ble_eq_true rfl) (L1 := [some (.ref m), some (.int (nI (p))), some (.int (nI (r))), some (.int (nI ((A.2.2.1.2.2 p).2.2.1))), some (.int (nI ((A.2.2.1.2.2 r).2.2.1))), some (.int (nI (i))), some (.int (nI (b3 (j)))), some (.int (nI (j))), some (.int (nI (b3 (j)))), some (.int (nI (dg + 1)))]) rfl ?_
                          refine x_iinc hC d_MessageCoderModel_common_173 rfl (v := (nI (j + 1))) (x_incN 1) (Nat.le_of_ble_eq_true rfl) (L1 := [some (.ref m), some (.int (nI (p))), some (.int (nI (r))), some (.int (nI ((A.2.2.1.2.2 p).2.2.1))), some (.int (nI ((A.2.2.1.2.2 r).2.2.1))), some (.int (nI (i))), some (.int (nI (b3 (j)))), some (.int (nI (j + 1))), some (.int (nI (b3 (j)))), some (.int (nI (dg + 1)))]) rfl ?_
                          refine x_goto hC d_MessageCoderModel_common_176 (tgt := 54) (by decide) ?_
                          refine x_forget (L1 := [some (.ref m), some (.int (nI (p))), some (.int (nI (r))), some (.int (nI ((A.2.2.1.2.2 p).2.2.1))), some (.int (nI ((A.2.2.1.2.2 r).2.2.1))), some (.int (nI (i))), some (.int (nI (b3 (j)))), some (.int (nI (j + 1))), none, none]) ⟨Or.inr rfl, ⟨Or.inr rfl, ⟨Or.inr rfl, ⟨Or.inr rfl, ⟨Or.inr rfl, ⟨Or.inr rfl, ⟨Or.inr rfl, ⟨Or.inr rfl, ⟨Or.inl rfl, ⟨Or.inl rfl, trivial⟩⟩⟩⟩⟩⟩⟩⟩⟩⟩ ?_
                          exact ih_54 F16 (j + 1) (b3 (j)) (bb) o0 ga h8 hag (by omega) (by rw [show j + 1 - 1 = j by omega]; exact hbj) (fun q hq9 => (Decidable.em (q = j)).elim (fun e => by rw [e]; exact hv) (fun e => (ho q e).trans (k1 q (by omega)))) (fun q h1 h2 => (ho q (by omega)).trans (k2 q (by omega) h2)) (by omega)
                        · skip
                          refine x_aload_n hC d_MessageCoderModel_common_149 rfl rfl ?_
                          refine x_getf hC kf_MessageCoderModel_31 o0 rfl d_MessageCoderModel_common_150 ?_
                          refine x_iload hC d_MessageCoderModel_common_153 rfl ?_
                          refine x_iconst hC d_MessageCoderModel_common_155 (v := nI 1) (by decide) ?_
                          refine x_isub hC d_MessageCoderModel_common_156 (v := (nI ((j) - 1))) (pk_sub (by omega)) ?_
                          refine x_iald hC h8 (j := (j) - 1) ⟨rfl, by omega, by omega⟩ (x := nI (ba ((j) - 1))) rfl d_MessageCoderModel_common_157 ?_
                          refine x_goto hC d_MessageCoderModel_common_158 (tgt := 168) (by decide) ?_
                          refine x_iast hC h8 (j := j) ⟨rfl, by omega, by omega⟩ d_MessageCoderModel_common_168 (g1 := fun b9 => nI (updN ba (j) (ba ((j) - 1)) b9)) (x_updN _ _ _) ?_
                          generalize ebb : updN ba (j) (ba ((j) - 1)) = bb
                          generalize e18 : xup F14 (m + 8) (.inr (0, 17, fun b9 => .int (nI (bb b9)))) = F18
                          have o0 : F18 (m) = some (.inl (10, [.int (nI (th)), .ref (m + 1), .int (nI (ch)), .int (nI (sv)), .int rs, .ref (m + 2), .ref (m + 3), .ref (m + 4), .ref (m + 5), .ref (m + 6), .int (nI (bm)), .ref (m + 7), .int (nI (dm)), .ref (m + 8), .ref (m + 9), .int (nI (lz)), .ref (m + 10), .int (nI (ty)), .int (nI (he)), .int er, .int ea, .int fa, .ref (m + 11), .int (nI (cn))])) := by rw [← e18]; exact (xup_ne (by omega)).trans o0
                          have ga : F18 (m + 1) = some (.inr (0, 4730, fun b9 => .int (nI (g b9)))) := by rw [← e18]; exact (xup_ne (by omega)).trans ga
                          have h8 : F18 (m + 8) = some (.inr (0, 17, fun b9 => .int (nI (bb b9)))) := by rw [← e18]; exact xup_eq
                          have hag : ∀ a9 : Nat, (a9 < m + 8 ∨ m + 8 + 1 ≤ a9) → F18 a9 = F a9 := fun a9 q0 => by rw [← e18]; exact (xup_ne (by omega)).trans (hag a9 q0)
                          have hbv := (congrFun ebb.symm j).trans (updN_at rfl)
                          have hv : bb j = lcs (A.2.2.1.2.2 p).2.2.2 (A.2.2.1.2.2 r).2.2.2 (i + 1) (j) := lcs_max _ _ hj.1 (by omega) (by omega) (fun e => by omega) (by first | (exact Or.inl (by omega)) | (exact Or.inr (Or.inl (by omega))) | (exact Or.inr (Or.inr ⟨by omega, by omega⟩)) | omega)
                          have ho : ∀ q, q ≠ j → bb q = b3 q := fun q hq9 => by rw [← ebb, updN_ne hq9, ← eba, updN_ne hq9]
                          refine x_iload hC d_MessageCoderModel_common_169 rfl ?_
                          refine x_istore hC d_MessageCoderModel_common_171 (Nat.le_of_ble_eq_true rfl) (L1 := [some (.ref m), some (.int (nI (p))), some (.int (nI (r))), some (.int (nI ((A.2.2.1.2.2 p).2.2.1))), some (.int (nI ((A.2.2.1.2.2 r).2.2.1))), some (.int (nI (i))), some (.int (nI (b3 (j)))), some (.int (nI (j))), some (.int (nI (b3 (j)))), some (.int (nI (dg + 1)))]) rfl ?_
                          refine x_iinc hC d_MessageCoderModel_common_173 rfl (v := (nI (j + 1))) (x_incN 1) (Nat.le_of_ble_eq_true rfl) (L1 := [some (.ref m), some (.int (nI (p))), some (.int (nI (r))), some (.int (nI ((A.2.2.1.2.2 p).2.2.1))), some (.int (nI ((A.2.2.1.2.2 r).2.2.1))), some (.int (nI (i))), some (.int (nI (b3 (j)))), some (.int (nI (j + 1))), some (.int (nI (b3 (j)))), some (.int (nI (dg + 1)))]) rfl ?_
                          refine x_goto hC d_MessageCoderModel_common_176 (tgt := 54) (by decide) ?_
                          refine x_forget (L1 := [some (.ref m), some (.int (nI (p))), some (.int (nI (r))), some (.int (nI ((A.2.2.1.2.2 p).2.2.1))), some (.int (nI ((A.2.2.1.2.2 r).2.2.1))), some (.int (nI (i))), some (.int (nI (b3 (j)))), some (.int (nI (j + 1))), none, none]) ⟨Or.inr rfl, ⟨Or.inr rfl, ⟨Or.inr rfl, ⟨Or.inr rfl, ⟨Or.inr rfl, ⟨Or.inr rfl, ⟨Or.inr rfl, ⟨Or.inr rfl, ⟨Or.inl rfl, ⟨Or.inl rfl, trivial⟩⟩⟩⟩⟩⟩⟩⟩⟩⟩ ?_
                          exact ih_54 F18 (j + 1) (b3 (j)) (bb) o0 ga h8 hag (by omega) (by rw [show j + 1 - 1 = j by omega]; exact hbj) (fun q hq9 => (Decidable.em (q = j)).elim (fun e => by rw [e]; exact hv) (fun e => (ho q e).trans (k1 q (by omega)))) (fun q h1 h2 => (ho q (by omega)).trans (k2 q (by omega) h2)) (by omega)
                      · skip
                        refine x_iload hC d_MessageCoderModel_common_116 rfl ?_
                        refine x_goto hC d_MessageCoderModel_common_118 (tgt := 123) (by decide) ?_
                        refine x_iast hC h8 (j := j) ⟨rfl, by omega, by omega⟩ d_MessageCoderModel_common_123 (g1 := fun b9 => nI (updN b3 (j) (dg + 1) b9)) (x_updN _ _ _) ?_
                        generalize eba : updN b3 (j) (dg + 1) = ba
                        generalize e20 : xup Fh54 (m + 8) (.inr (0, 17, fun b9 => .int (nI (ba b9)))) = F20
                        have o0 : F20 (m) = some (.inl (10, [.int (nI (th)), .ref (m + 1), .int (nI (ch)), .int (nI (sv)), .int rs, .ref (m + 2), .ref (m + 3), .ref (m + 4), .ref (m + 5), .ref (m + 6), .int (nI (bm)), .ref (m + 7), .int (nI (dm)), .ref (m + 8), .ref (m + 9), .int (nI (lz)), .ref (m + 10), .int (nI (ty)), .int (nI (he)), .int er, .int ea, .int fa, .ref (m + 11), .int (nI (cn))])) := by rw [← e20]; exact (xup_ne (by omega)).trans o0
                        have ga : F20 (m + 1) = some (.inr (0, 4730, fun b9 => .int (nI (g b9)))) := by rw [← e20]; exact (xup_ne (by omega)).trans ga
                        have h8 : F20 (m + 8) = some (.inr (0, 17, fun b9 => .int (nI (ba b9)))) := by rw [← e20]; exact xup_eq
                        have hag : ∀ a9 : Nat, (a9 < m + 8 ∨ m + 8 + 1 ≤ a9) → F20 a9 = F a9 := fun a9 q0 => by rw [← e20]; exact (xup_ne (by omega)).trans (hag a9 q0)
                        have hba := (congrFun eba.symm j).trans (updN_at rfl)
                        have hbb := (congrFun eba.symm (j - 1)).trans (updN_ne (by omega))
                        refine x_aload_n hC d_MessageCoderModel_common_124 rfl rfl ?_
                        refine x_getf hC kf_MessageCoderModel_31 o0 rfl d_MessageCoderModel_common_125 ?_
                        refine x_iload hC d_MessageCoderModel_common_128 rfl ?_
                        refine x_aload_n hC d_MessageCoderModel_common_130 rfl rfl ?_
                        refine x_getf hC kf_MessageCoderModel_31 o0 rfl d_MessageCoderModel_common_131 ?_
                        refine x_iload hC d_MessageCoderModel_common_134 rfl ?_
                        refine x_iconst hC d_MessageCoderModel_common_136 (v := nI 1) (by decide) ?_
                        refine x_isub hC d_MessageCoderModel_common_137 (v := (nI ((j) - 1))) (pk_sub (by omega)) ?_
                        refine x_iald hC h8 (j := (j) - 1) ⟨rfl, by omega, by omega⟩ (x := nI (ba ((j) - 1))) rfl d_MessageCoderModel_common_138 ?_
                        refine x_aload_n hC d_MessageCoderModel_common_139 rfl rfl ?_
                        refine x_getf hC kf_MessageCoderModel_31 o0 rfl d_MessageCoderModel_common_140 ?_
                        refine x_iload hC d_MessageCoderModel_common_143 rfl ?_
                        refine x_iald hC h8 (j := j) ⟨rfl, by omega, by omega⟩ (x := nI (ba (j))) rfl d_MessageCoderModel_common_145 ?_
                        refine x_icmpN_le hC d_MessageCoderModel_common_146 (tgt := 161) (by decide) (by omega) (by omega) (fun c_146 => ?_) (fun c_146 => ?_)
                        · skip
                          refine x_aload_n hC d_MessageCoderModel_common_161 rfl rfl ?_
                          refine x_getf hC kf_MessageCoderModel_31 o0 rfl d_MessageCoderModel_common_162 ?_
                          refine x_iload hC d_MessageCoderModel_common_165 rfl ?_
                          refine x_iald hC h8 (j := j) ⟨rfl, by omega, by omega⟩ (x := nI (ba (j))) rfl d_MessageCoderModel_common_167 ?_
                          refine x_iast hC h8 (j := j) ⟨rfl, by omega, by omega⟩ d_MessageCoderModel_common_168 (g1 := fun b9 => nI (updN ba (j) (ba (j)) b9)) (x_updN _ _ _) ?_
                          generalize ebb : updN ba (j) (ba (j)) = bb
                          generalize e22 : xup F20 (m + 8) (.inr (0, 17, fun b9 => .int (nI (bb b9)))) = F22
                          have o0 : F22 (m) = some (.inl (10, [.int (nI (th)), .ref (m + 1), .int (nI (ch)), .int (nI (sv)), .int rs, .ref (m + 2), .ref (m + 3), .ref (m + 4), .ref (m + 5), .ref (m + 6), .int (nI (bm)), .ref (m + 7), .int (nI (dm)), .ref (m + 8), .ref (m + 9), .int (nI (lz)), .ref (m + 10), .int (nI (ty)), .int (nI (he)), .int er, .int ea, .int fa, .ref (m + 11), .int (nI (cn))])) := by rw [← e22]; exact (xup_ne (by omega)).trans o0
                          have ga : F22 (m + 1) = some (.inr (0, 4730, fun b9 => .int (nI (g b9)))) := by rw [← e22]; exact (xup_ne (by omega)).trans ga
                          have h8 : F22 (m + 8) = some (.inr (0, 17, fun b9 => .int (nI (bb b9)))) := by rw [← e22]; exact xup_eq
                          have hag : ∀ a9 : Nat, (a9 < m + 8 ∨ m + 8 + 1 ≤ a9) → F22 a9 = F a9 := fun a9 q0 => by rw [← e22]; exact (xup_ne (by omega)).trans (hag a9 q0)
                          have hbv := (congrFun ebb.symm j).trans (updN_at rfl)
                          have hv : bb j = lcs (A.2.2.1.2.2 p).2.2.2 (A.2.2.1.2.2 r).2.2.2 (i + 1) (j) := lcs_max _ _ hj.1 (by omega) (by omega) (fun e => by omega) (by first | (exact Or.inl (by omega)) | (exact Or.inr (Or.inl (by omega))) | (exact Or.inr (Or.inr ⟨by omega, by omega⟩)) | omega)
                          have ho : ∀ q, q ≠ j → bb q = b3 q := fun q hq9 => by rw [← ebb, updN_ne hq9, ← eba, updN_ne hq9]
                          refine x_iload hC d_MessageCoderModel_common_169 rfl ?_
                          refine x_istore hC d_MessageCoderModel_common_171 (Nat.le_of_ble_eq_true rfl) (L1 := [some (.ref m), some (.int (nI (p))), some (.int (nI (r))), some (.int (nI ((A.2.2.1.2.2 p).2.2.1))), some (.int (nI ((A.2.2.1.2.2 r).2.2.1))), some (.int (nI (i))), some (.int (nI (b3 (j)))), some (.int (nI (j))), some (.int (nI (b3 (j)))), some (.int (nI (dg + 1)))]) rfl ?_
                          refine x_iinc hC d_MessageCoderModel_common_173 rfl (v := (nI (j + 1))) (x_incN 1) (Nat.le_of_ble_eq_true rfl) (L1 := [some (.ref m), some (.int (nI (p))), some (.int (nI (r))), some (.int (nI ((A.2.2.1.2.2 p).2.2.1))), some (.int (nI ((A.2.2.1.2.2 r).2.2.1))), some (.int (nI (i))), some (.int (nI (b3 (j)))), some (.int (nI (j + 1))), some (.int (nI (b3 (j)))), some (.int (nI (dg + 1)))]) rfl ?_
                          refine x_goto hC d_MessageCoderModel_common_176 (tgt := 54) (by decide) ?_
                          refine x_forget (L1 := [some (.ref m), some (.int (nI (p))), some (.int (nI (r))), some (.int (nI ((A.2.2.1.2.2 p).2.2.1))), some (.int (nI ((A.2.2.1.2.2 r).2.2.1))), some (.int (nI (i))), some (.int (nI (b3 (j)))), some (.int (nI (j + 1))), none, none]) ⟨Or.inr rfl, ⟨Or.inr rfl, ⟨Or.inr rfl, ⟨Or.inr rfl, ⟨Or.inr rfl, ⟨Or.inr rfl, ⟨Or.inr rfl, ⟨Or.inr rfl, ⟨Or.inl rfl, ⟨Or.inl rfl, trivial⟩⟩⟩⟩⟩⟩⟩⟩⟩⟩ ?_
                          exact ih_54 F22 (j + 1) (b3 (j)) (bb) o0 ga h8 hag (by omega) (by rw [show j + 1 - 1 = j by omega]; exact hbj) (fun q hq9 => (Decidable.em (q = j)).elim (fun e => by rw [e]; exact hv) (fun e => (ho q e).trans (k1 q (by omega)))) (fun q h1 h2 => (ho q (by omega)).trans (k2 q (by omega) h2)) (by omega)
                        · skip
                          refine x_aload_n hC d_MessageCoderModel_common_149 rfl rfl ?_
                          refine x_getf hC kf_MessageCoderModel_31 o0 rfl d_MessageCoderModel_common_150 ?_
                          refine x_iload hC d_MessageCoderModel_common_153 rfl ?_
                          refine x_iconst hC d_MessageCoderModel_common_155 (v := nI 1) (by decide) ?_
                          refine x_isub hC d_MessageCoderModel_common_156 (v := (nI ((j) - 1))) (pk_sub (by omega)) ?_
                          refine x_iald hC h8 (j := (j) - 1) ⟨rfl, by omega, by omega⟩ (x := nI (ba ((j) - 1))) rfl d_MessageCoderModel_common_157 ?_
                          refine x_goto hC d_MessageCoderModel_common_158 (tgt := 168) (by decide) ?_
                          refine x_iast hC h8 (j := j) ⟨rfl, by omega, by omega⟩ d_MessageCoderModel_common_168 (g1 := fun b9 => nI (updN ba (j) (ba ((j) - 1)) b9)) (x_updN _ _ _) ?_
                          generalize ebb : updN ba (j) (ba ((j) - 1)) = bb
                          generalize e24 : xup F20 (m + 8) (.inr (0, 17, fun b9 => .int (nI (bb b9)))) = F24
                          have o0 : F24 (m) = some (.inl (10, [.int (nI (th)), .ref (m + 1), .int (nI (ch)), .int (nI (sv)), .int rs, .ref (m + 2), .ref (m + 3), .ref (m + 4), .ref (m + 5), .ref (m + 6), .int (nI (bm)), .ref (m + 7), .int (nI (dm)), .ref (m + 8), .ref (m + 9), .int (nI (lz)), .ref (m + 10), .int (nI (ty)), .int (nI (he)), .int er, .int ea, .int fa, .ref (m + 11), .int (nI (cn))])) := by rw [← e24]; exact (xup_ne (by omega)).trans o0
                          have ga : F24 (m + 1) = some (.inr (0, 4730, fun b9 => .int (nI (g b9)))) := by rw [← e24]; exact (xup_ne (by omega)).trans ga
                          have h8 : F24 (m + 8) = some (.inr (0, 17, fun b9 => .int (nI (bb b9)))) := by rw [← e24]; exact xup_eq
                          have hag : ∀ a9 : Nat, (a9 < m + 8 ∨ m + 8 + 1 ≤ a9) → F24 a9 = F a9 := fun a9 q0 => by rw [← e24]; exact (xup_ne (by omega)).trans (hag a9 q0)
                          have hbv := (congrFun ebb.symm j).trans (updN_at rfl)
                          have hv : bb j = lcs (A.2.2.1.2.2 p).2.2.2 (A.2.2.1.2.2 r).2.2.2 (i + 1) (j) := lcs_max _ _ hj.1 (by omega) (by omega) (fun e => by omega) (by first | (exact Or.inl (by omega)) | (exact Or.inr (Or.inl (by omega))) | (exact Or.inr (Or.inr ⟨by omega, by omega⟩)) | omega)
                          have ho : ∀ q, q ≠ j → bb q = b3 q := fun q hq9 => by rw [← ebb, updN_ne hq9, ← eba, updN_ne hq9]
                          refine x_iload hC d_MessageCoderModel_common_169 rfl ?_
                          refine x_istore hC d_MessageCoderModel_common_171 (Nat.le_of_ble_eq_true rfl) (L1 := [some (.ref m), some (.int (nI (p))), some (.int (nI (r))), some (.int (nI ((A.2.2.1.2.2 p).2.2.1))), some (.int (nI ((A.2.2.1.2.2 r).2.2.1))), some (.int (nI (i))), some (.int (nI (b3 (j)))), some (.int (nI (j))), some (.int (nI (b3 (j)))), some (.int (nI (dg + 1)))]) rfl ?_
                          refine x_iinc hC d_MessageCoderModel_common_173 rfl (v := (nI (j + 1))) (x_incN 1) (Nat.le_of_ble_eq_true rfl) (L1 := [some (.ref m), some (.int (nI (p))), some (.int (nI (r))), some (.int (nI ((A.2.2.1.2.2 p).2.2.1))), some (.int (nI ((A.2.2.1.2.2 r).2.2.1))), some (.int (nI (i))), some (.int (nI (b3 (j)))), some (.int (nI (j + 1))), some (.int (nI (b3 (j)))), some (.int (nI (dg + 1)))]) rfl ?_
                          refine x_goto hC d_MessageCoderModel_common_176 (tgt := 54) (by decide) ?_
                          refine x_forget (L1 := [some (.ref m), some (.int (nI (p))), some (.int (nI (r))), some (.int (nI ((A.2.2.1.2.2 p).2.2.1))), some (.int (nI ((A.2.2.1.2.2 r).2.2.1))), some (.int (nI (i))), some (.int (nI (b3 (j)))), some (.int (nI (j + 1))), none, none]) ⟨Or.inr rfl, ⟨Or.inr rfl, ⟨Or.inr rfl, ⟨Or.inr rfl, ⟨Or.inr rfl, ⟨Or.inr rfl, ⟨Or.inr rfl, ⟨Or.inr rfl, ⟨Or.inl rfl, ⟨Or.inl rfl, trivial⟩⟩⟩⟩⟩⟩⟩⟩⟩⟩ ?_
                          exact ih_54 F24 (j + 1) (b3 (j)) (bb) o0 ga h8 hag (by omega) (by rw [show j + 1 - 1 = j by omega]; exact hbj) (fun q hq9 => (Decidable.em (q = j)).elim (fun e => by rw [e]; exact hv) (fun e => (ho q e).trans (k1 q (by omega)))) (fun q h1 h2 => (ho q (by omega)).trans (k2 q (by omega) h2)) (by omega)
              exact loop_54 ((A.2.2.1.2.2 r).2.2.1 + 1 - 1 + 1) Fh42 (1) (0) (b2) o0 ga h8 hag (by omega) ((lcs_0 _ _ _).symm) (fun q hq9 => by rw [show q = 0 by omega, k3 0 (by omega), lcs_0, lcs_0]) (fun q _ hq9 => k3 q hq9) (by omega)
        exact loop_42 ((A.2.2.1.2.2 p).2.2.1 - 0 + 1) Fh18 (0) (b1) o0 ga h8 hag (by omega) (k0) (by omega)
      · skip
        refine x_aload_n hC d_MessageCoderModel_common_25 rfl rfl ?_
        refine x_getf hC kf_MessageCoderModel_31 o0 rfl d_MessageCoderModel_common_26 ?_
        refine x_iload hC d_MessageCoderModel_common_29 rfl ?_
        refine x_iconst hC d_MessageCoderModel_common_31 (v := nI 0) (by decide) ?_
        refine x_iast hC h8 (j := z5) ⟨rfl, by omega, by omega⟩ d_MessageCoderModel_common_32 (g1 := fun b9 => nI (updN b1 (z5) (0) b9)) (x_updN _ _ _) ?_
        generalize ebz : updN b1 (z5) (0) = bz
        generalize e26 : xup Fh18 (m + 8) (.inr (0, 17, fun b9 => .int (nI (bz b9)))) = F26
        have o0 : F26 (m) = some (.inl (10, [.int (nI (th)), .ref (m + 1), .int (nI (ch)), .int (nI (sv)), .int rs, .ref (m + 2), .ref (m + 3), .ref (m + 4), .ref (m + 5), .ref (m + 6), .int (nI (bm)), .ref (m + 7), .int (nI (dm)), .ref (m + 8), .ref (m + 9), .int (nI (lz)), .ref (m + 10), .int (nI (ty)), .int (nI (he)), .int er, .int ea, .int fa, .ref (m + 11), .int (nI (cn))])) := by rw [← e26]; exact (xup_ne (by omega)).trans o0
        have ga : F26 (m + 1) = some (.inr (0, 4730, fun b9 => .int (nI (g b9)))) := by rw [← e26]; exact (xup_ne (by omega)).trans ga
        have h8 : F26 (m + 8) = some (.inr (0, 17, fun b9 => .int (nI (bz b9)))) := by rw [← e26]; exact xup_eq
        have hag : ∀ a9 : Nat, (a9 < m + 8 ∨ m + 8 + 1 ≤ a9) → F26 a9 = F a9 := fun a9 q0 => by rw [← e26]; exact (xup_ne (by omega)).trans (hag a9 q0)
        refine x_iinc hC d_MessageCoderModel_common_33 rfl (v := (nI (z5 + 1))) (x_incN 1) (Nat.le_of_ble_eq_true rfl) (L1 := [some (.ref m), some (.int (nI (p))), some (.int (nI (r))), some (.int (nI ((A.2.2.1.2.2 p).2.2.1))), some (.int (nI ((A.2.2.1.2.2 r).2.2.1))), some (.int (nI (z5 + 1))), none, none, none, none]) rfl ?_
        refine x_goto hC d_MessageCoderModel_common_36 (tgt := 18) (by decide) ?_
        exact ih_18 F26 (z5 + 1) (bz) o0 ga h8 hag (by omega) (fun j hj => (Nat.lt_or_ge j z5).elim (fun q => by rw [← ebz, updN_ne (by omega)]; exact kz j q) (fun q => by rw [← ebz]; exact updN_at (by omega))) (by omega)
  exact loop_18 ((A.2.2.1.2.2 r).2.2.1 + 1 - 0 + 1) F (0) (b8) o0 ga h8 hag (by omega) (fun j hj => absurd hj (by omega)) (by omega)

theorem d_MessageCoderModel_areEqual_0 : decode prog_14_method_81_code 0 = .ok (.aload_n 0, 1) := by decide +kernel
theorem d_MessageCoderModel_areEqual_1 : decode prog_14_method_81_code 1 = .ok (.iload_n 1, 1) := by decide +kernel
theorem d_MessageCoderModel_areEqual_2 : decode prog_14_method_81_code 2 = .ok (.iload_n 2, 1) := by decide +kernel
theorem d_MessageCoderModel_areEqual_3 : decode prog_14_method_81_code 3 = .ok (.invokevirtual 214, 3) := by decide +kernel
theorem d_MessageCoderModel_areEqual_6 : decode prog_14_method_81_code 6 = .ok (.ifCond .ne 5, 3) := by decide +kernel
theorem d_MessageCoderModel_areEqual_9 : decode prog_14_method_81_code 9 = .ok (.iconst 0, 1) := by decide +kernel
theorem d_MessageCoderModel_areEqual_10 : decode prog_14_method_81_code 10 = .ok (.ireturn, 1) := by decide +kernel
theorem d_MessageCoderModel_areEqual_11 : decode prog_14_method_81_code 11 = .ok (.aload_n 0, 1) := by decide +kernel
theorem d_MessageCoderModel_areEqual_12 : decode prog_14_method_81_code 12 = .ok (.iload_n 1, 1) := by decide +kernel
theorem d_MessageCoderModel_areEqual_13 : decode prog_14_method_81_code 13 = .ok (.invokevirtual 85, 3) := by decide +kernel
theorem d_MessageCoderModel_areEqual_16 : decode prog_14_method_81_code 16 = .ok (.istore_n 3, 1) := by decide +kernel
theorem d_MessageCoderModel_areEqual_17 : decode prog_14_method_81_code 17 = .ok (.aload_n 0, 1) := by decide +kernel
theorem d_MessageCoderModel_areEqual_18 : decode prog_14_method_81_code 18 = .ok (.iload_n 2, 1) := by decide +kernel
theorem d_MessageCoderModel_areEqual_19 : decode prog_14_method_81_code 19 = .ok (.invokevirtual 85, 3) := by decide +kernel
theorem d_MessageCoderModel_areEqual_22 : decode prog_14_method_81_code 22 = .ok (.istore 4, 2) := by decide +kernel
theorem d_MessageCoderModel_areEqual_24 : decode prog_14_method_81_code 24 = .ok (.aload_n 0, 1) := by decide +kernel
theorem d_MessageCoderModel_areEqual_25 : decode prog_14_method_81_code 25 = .ok (.iload_n 3, 1) := by decide +kernel
theorem d_MessageCoderModel_areEqual_26 : decode prog_14_method_81_code 26 = .ok (.iconst 2, 1) := by decide +kernel
theorem d_MessageCoderModel_areEqual_27 : decode prog_14_method_81_code 27 = .ok (.invokevirtual 81, 3) := by decide +kernel
theorem d_MessageCoderModel_areEqual_30 : decode prog_14_method_81_code 30 = .ok (.aload_n 0, 1) := by decide +kernel
theorem d_MessageCoderModel_areEqual_31 : decode prog_14_method_81_code 31 = .ok (.iload 4, 2) := by decide +kernel
theorem d_MessageCoderModel_areEqual_33 : decode prog_14_method_81_code 33 = .ok (.iconst 2, 1) := by decide +kernel
theorem d_MessageCoderModel_areEqual_34 : decode prog_14_method_81_code 34 = .ok (.invokevirtual 81, 3) := by decide +kernel
theorem d_MessageCoderModel_areEqual_37 : decode prog_14_method_81_code 37 = .ok (.if_icmp .ne 23, 3) := by decide +kernel
theorem d_MessageCoderModel_areEqual_40 : decode prog_14_method_81_code 40 = .ok (.aload_n 0, 1) := by decide +kernel
theorem d_MessageCoderModel_areEqual_41 : decode prog_14_method_81_code 41 = .ok (.iload_n 3, 1) := by decide +kernel
theorem d_MessageCoderModel_areEqual_42 : decode prog_14_method_81_code 42 = .ok (.iload 4, 2) := by decide +kernel
theorem d_MessageCoderModel_areEqual_44 : decode prog_14_method_81_code 44 = .ok (.invokevirtual 218, 3) := by decide +kernel
theorem d_MessageCoderModel_areEqual_47 : decode prog_14_method_81_code 47 = .ok (.aload_n 0, 1) := by decide +kernel
theorem d_MessageCoderModel_areEqual_48 : decode prog_14_method_81_code 48 = .ok (.iload_n 3, 1) := by decide +kernel
theorem d_MessageCoderModel_areEqual_49 : decode prog_14_method_81_code 49 = .ok (.iconst 2, 1) := by decide +kernel
theorem d_MessageCoderModel_areEqual_50 : decode prog_14_method_81_code 50 = .ok (.invokevirtual 81, 3) := by decide +kernel
theorem d_MessageCoderModel_areEqual_53 : decode prog_14_method_81_code 53 = .ok (.if_icmp .ne 7, 3) := by decide +kernel
theorem d_MessageCoderModel_areEqual_56 : decode prog_14_method_81_code 56 = .ok (.iconst 1, 1) := by decide +kernel
theorem d_MessageCoderModel_areEqual_57 : decode prog_14_method_81_code 57 = .ok (.goto 4, 3) := by decide +kernel
theorem d_MessageCoderModel_areEqual_60 : decode prog_14_method_81_code 60 = .ok (.iconst 0, 1) := by decide +kernel
theorem d_MessageCoderModel_areEqual_61 : decode prog_14_method_81_code 61 = .ok (.ireturn, 1) := by decide +kernel
set_option maxHeartbeats 4000000 in
set_option maxRecDepth 20000 in
theorem c_MessageCoderModel_areEqual {P : xP} {F : xF} {z : Nat} {m : Nat} {th0 : Nat} {M : mcS} {a : Int32} {c : Int32} (hD : xMD F (m) (th0) (M)) (hI : mInv M) : xM P xy_MessageCoderModel_areEqual [.ref m, .int a, .int c] F (z) 0 0 (fun r9 F9 z9 => r9 = some (.int (xb ((mOk M.1 a ∧ mOk M.1 c) ∧ (mAt M.1 a).2.2.1 = (mAt M.1 c).2.2.1 ∧ eqTo (mAt M.1 a).2.2.2 (mAt M.1 c).2.2.2 (mAt M.1 a).2.2.1 = true))) ∧ z9 = z ∧ xMD F9 (m) ((if mOk M.1 a ∧ mOk M.1 c then 0 else 1)) (M) ∧ (∀ a9 : Nat, (a9 < m ∨ m + 12 ≤ a9) → F9 a9 = F a9)) := by
  refine xM_i .boolean rfl (Nat.le_of_ble_eq_true rfl) (L0 := [some (.ref m), some (.int a), some (.int c), none, none]) rfl rfl fun Θ hC hret => ?_
  have hag : ∀ a9 : Nat, (a9 < m ∨ m + 12 ≤ a9) → F a9 = F a9 := fun a9 _ => rfl
  obtain ⟨A, S, past, ⟨pn, psg⟩, ⟨lnn, lsg⟩, sv, pp, un, ep, fc⟩ := M
  obtain ⟨rs, er, bm, dm, he, cn, g, l2, v3, r4, w5, b6, d7, b8, ln, ip, cs, o0, ga, h2, h3, h4, h5, h6, h7, h8, h9, hi, hcm, hg, hln, hip⟩ := id hD
  obtain ⟨iA, iP, iS, hu8, hup, hs1, hty, hlz, hic, hlc⟩ := id hI
  have o0 : F (m) = some (.inl (10, [.int (nI (th0)), .ref (m + 1), .int (nI (un)), .int (nI (sv)), .int rs, .ref (m + 2), .ref (m + 3), .ref (m + 4), .ref (m + 5), .ref (m + 6), .int (nI (bm)), .ref (m + 7), .int (nI (dm)), .ref (m + 8), .ref (m + 9), .int (nI (lnn)), .ref (m + 10), .int (nI (pn)), .int (nI (he)), .int er, .int ep, .int fc, .ref (m + 11), .int (nI (cn))])) := o0
  have ga : F (m + 1) = some (.inr (0, 4730, fun b9 => .int (nI (g b9)))) := ga
  have h2 : F (m + 2) = some (.inr (0, 8, fun b9 => .int (nI (l2 b9)))) := h2
  have h3 : F (m + 3) = some (.inr (0, 8, fun b9 => .int (nI (v3 b9)))) := h3
  have h4 : F (m + 4) = some (.inr (0, 8, fun b9 => .int (nI (r4 b9)))) := h4
  have h5 : F (m + 5) = some (.inr (0, 8, fun b9 => .int (nI (w5 b9)))) := h5
  have h6 : F (m + 6) = some (.inr (0, 112, fun b9 => .int (nI (b6 b9)))) := h6
  have h7 : F (m + 7) = some (.inr (0, 16, fun b9 => .int (nI (d7 b9)))) := h7
  have h8 : F (m + 8) = some (.inr (0, 17, fun b9 => .int (nI (b8 b9)))) := h8
  have h9 : F (m + 9) = some (.inr (1, 40, fun b9 => .int (nI (ln b9)))) := h9
  have hi : F (m + 10) = some (.inr (1, 60, fun b9 => .int (nI (ip b9)))) := hi
  have hcm : F (m + 11) = some (.inr (0, 183, fun b9 => .int (nI (cs b9)))) := hcm
  have hln : ∀ j, j < lnn → ln j = lsg j := hln
  have hip : ∀ j, j < pn → ip j = psg j := hip
  have iA : aInv A := iA
  have hu8 : un ≤ 8 := hu8
  have hup : un ≤ pp := hup
  have hs1 : sv ≤ 1 := hs1
  have hty : pn ≤ 60 := hty
  have hlz : lnn ≤ 32 := hlz
  have hr : rRow g A := hg.1
  have hA : aInv A := iA
  obtain ⟨⟨q0, q1, q2, q3, q4, q5, q6, q7, q9⟩, qw, qd, qm, qf, qx, qb⟩ := id hr
  obtain ⟨⟨u1, u2, u3, u4, u5⟩, uw, ud, um, uo, ut, ux, ub, un9⟩ := id hA
  refine x_aload_n hC d_MessageCoderModel_areEqual_0 rfl rfl ?_
  refine x_iload_n hC d_MessageCoderModel_areEqual_1 rfl rfl ?_
  refine x_iload_n hC d_MessageCoderModel_areEqual_2 rfl rfl ?_
  refine x_callV hC kv_MessageCoderModel_214 (c_MessageCoderModel_areThere (o0 := o0) (ga := ga) (hr := hr) (hA := hA)) o0 rfl rfl (by decide) rfl rfl rfl (Nat.le_of_ble_eq_true rfl) (by decide) d_MessageCoderModel_areEqual_3 (fun r9 F9 z9 hp9 => ?_)
  obtain ⟨rfl, h9c, j0, j1, hag9⟩ := hp9
  rw [h9c]
  clear h9c z9
  generalize F9 = F1 at *
  have h2 : F1 (m + 2) = some (.inr (0, 8, fun b9 => .int (nI (l2 b9)))) := (hag9 _ (by omega)).trans h2
  have h3 : F1 (m + 3) = some (.inr (0, 8, fun b9 => .int (nI (v3 b9)))) := (hag9 _ (by omega)).trans h3
  have h4 : F1 (m + 4) = some (.inr (0, 8, fun b9 => .int (nI (r4 b9)))) := (hag9 _ (by omega)).trans h4
  have h5 : F1 (m + 5) = some (.inr (0, 8, fun b9 => .int (nI (w5 b9)))) := (hag9 _ (by omega)).trans h5
  have h6 : F1 (m + 6) = some (.inr (0, 112, fun b9 => .int (nI (b6 b9)))) := (hag9 _ (by omega)).trans h6
  have h7 : F1 (m + 7) = some (.inr (0, 16, fun b9 => .int (nI (d7 b9)))) := (hag9 _ (by omega)).trans h7
  have h8 : F1 (m + 8) = some (.inr (0, 17, fun b9 => .int (nI (b8 b9)))) := (hag9 _ (by omega)).trans h8
  have h9 : F1 (m + 9) = some (.inr (1, 40, fun b9 => .int (nI (ln b9)))) := (hag9 _ (by omega)).trans h9
  have hi : F1 (m + 10) = some (.inr (1, 60, fun b9 => .int (nI (ip b9)))) := (hag9 _ (by omega)).trans hi
  have hcm : F1 (m + 11) = some (.inr (0, 183, fun b9 => .int (nI (cs b9)))) := (hag9 _ (by omega)).trans hcm
  have o0 : F1 (m) = some (.inl (10, [.int (nI ((if mOk A a ∧ mOk A c then 0 else 1))), .ref (m + 1), .int (nI (un)), .int (nI (sv)), .int rs, .ref (m + 2), .ref (m + 3), .ref (m + 4), .ref (m + 5), .ref (m + 6), .int (nI (bm)), .ref (m + 7), .int (nI (dm)), .ref (m + 8), .ref (m + 9), .int (nI (lnn)), .ref (m + 10), .int (nI (pn)), .int (nI (he)), .int er, .int ep, .int fc, .ref (m + 11), .int (nI (cn))])) := j0
  have ga : F1 (m + 1) = some (.inr (0, 4730, fun b9 => .int (nI (g b9)))) := j1
  have hag : ∀ a9 : Nat, (a9 < m ∨ m + 12 ≤ a9) → F1 a9 = F a9 := fun a9 q0 => (hag9 a9 (by omega)).trans (hag a9 q0)
  have hg_3 := hag9
  clear hag9
  refine x_ifB_ne hC d_MessageCoderModel_areEqual_6 (tgt := 11) (by decide) (fun c_6 => ?_) (fun c_6 => ?_)
  · skip
    have hpa : mIx A a < A.2.2.1.1 := c_6.1
    have hpc : mIx A c < A.2.2.1.1 := c_6.2
    have hla := (um _ hpa).2.2.1
    have hlc9 := (um _ hpc).2.2.1
    have hcl := lcs_le (A.2.2.1.2.2 (mIx A a)).2.2.2 (A.2.2.1.2.2 (mIx A c)).2.2.2 (A.2.2.1.2.2 (mIx A a)).2.2.1 (A.2.2.1.2.2 (mIx A c)).2.2.1
    refine x_aload_n hC d_MessageCoderModel_areEqual_11 rfl rfl ?_
    refine x_iload_n hC d_MessageCoderModel_areEqual_12 rfl rfl ?_
    refine x_callV hC kv_MessageCoderModel_85 (c_MessageCoderModel_place (o0 := o0) (ga := ga) (hr := hr) (hA := hA)) o0 rfl rfl (by decide) rfl rfl rfl (Nat.le_of_ble_eq_true rfl) (by decide) d_MessageCoderModel_areEqual_13 (fun r9 F9 z9 hp9 => ?_)
    obtain ⟨rfl, h9b, h9c⟩ := hp9
    rw [h9b, h9c]
    clear h9b h9c F9 z9
    refine x_top (v := (nI (mIx A a))) (plc_of c_6.1) ?_
    refine x_istore_n hC d_MessageCoderModel_areEqual_16 rfl (Nat.le_of_ble_eq_true rfl) (L1 := [some (.ref m), some (.int a), some (.int c), some (.int (nI (mIx A a))), none]) rfl ?_
    refine x_aload_n hC d_MessageCoderModel_areEqual_17 rfl rfl ?_
    refine x_iload_n hC d_MessageCoderModel_areEqual_18 rfl rfl ?_
    refine x_callV hC kv_MessageCoderModel_85 (c_MessageCoderModel_place (o0 := o0) (ga := ga) (hr := hr) (hA := hA)) o0 rfl rfl (by decide) rfl rfl rfl (Nat.le_of_ble_eq_true rfl) (by decide) d_MessageCoderModel_areEqual_19 (fun r9 F9 z9 hp9 => ?_)
    obtain ⟨rfl, h9b, h9c⟩ := hp9
    rw [h9b, h9c]
    clear h9b h9c F9 z9
    refine x_top (v := (nI (mIx A c))) (plc_of c_6.2) ?_
    refine x_istore hC d_MessageCoderModel_areEqual_22 (Nat.le_of_ble_eq_true rfl) (L1 := [some (.ref m), some (.int a), some (.int c), some (.int (nI (mIx A a))), some (.int (nI (mIx A c)))]) rfl ?_
    refine x_aload_n hC d_MessageCoderModel_areEqual_24 rfl rfl ?_
    refine x_iload_n hC d_MessageCoderModel_areEqual_25 rfl rfl ?_
    refine x_iconst hC d_MessageCoderModel_areEqual_26 (v := nI 2) (by decide) ?_
    refine x_callV hC kv_MessageCoderModel_81 (c_MessageCoderModel_m (o0 := o0) (ga := ga) (hpw := by omega)) o0 rfl rfl (by decide) rfl rfl rfl (Nat.le_of_ble_eq_true rfl) (by decide) d_MessageCoderModel_areEqual_27 (fun r9 F9 z9 hp9 => ?_)
    obtain ⟨rfl, h9b, h9c⟩ := hp9
    rw [h9b, h9c]
    clear h9b h9c F9 z9
    refine x_top (v := (nI ((A.2.2.1.2.2 (mIx A a)).2.2.1))) (congrArg nI (qm _ hpa).2.2.1) ?_
    refine x_aload_n hC d_MessageCoderModel_areEqual_30 rfl rfl ?_
    refine x_iload hC d_MessageCoderModel_areEqual_31 rfl ?_
    refine x_iconst hC d_MessageCoderModel_areEqual_33 (v := nI 2) (by decide) ?_
    refine x_callV hC kv_MessageCoderModel_81 (c_MessageCoderModel_m (o0 := o0) (ga := ga) (hpw := by omega)) o0 rfl rfl (by decide) rfl rfl rfl (Nat.le_of_ble_eq_true rfl) (by decide) d_MessageCoderModel_areEqual_34 (fun r9 F9 z9 hp9 => ?_)
    obtain ⟨rfl, h9b, h9c⟩ := hp9
    rw [h9b, h9c]
    clear h9b h9c F9 z9
    refine x_top (v := (nI ((A.2.2.1.2.2 (mIx A c)).2.2.1))) (congrArg nI (qm _ hpc).2.2.1) ?_
    refine x_icmpN_ne hC d_MessageCoderModel_areEqual_37 (tgt := 60) (by decide) (by omega) (by omega) (fun c_37 => ?_) (fun c_37 => ?_)
    · skip
      refine x_iconst hC d_MessageCoderModel_areEqual_60 (v := nI 0) (by decide) ?_
      exact hret _ _ _ _ _ _ _ d_MessageCoderModel_areEqual_61 (by decide) (by decide) rfl (⟨congrArg (fun q => some (Value.int q)) (xb_f0 (p := (mOk A a ∧ mOk A c) ∧ (A.2.2.1.2.2 (mIx A a)).2.2.1 = (A.2.2.1.2.2 (mIx A c)).2.2.1 ∧ eqTo (A.2.2.1.2.2 (mIx A a)).2.2.2 (A.2.2.1.2.2 (mIx A c)).2.2.2 (A.2.2.1.2.2 (mIx A a)).2.2.1 = true) (fun h9 => c_37 h9.2.1)), rfl, ⟨_, _, _, _, _, _, _, _, _, _, _, _, _, _, _, _, _, o0, ga, h2, h3, h4, h5, h6, h7, h8, h9, hi, hcm, hg, hln, hip⟩, hag⟩)
    · skip
      refine x_aload_n hC d_MessageCoderModel_areEqual_40 rfl rfl ?_
      refine x_iload_n hC d_MessageCoderModel_areEqual_41 rfl rfl ?_
      refine x_iload hC d_MessageCoderModel_areEqual_42 rfl ?_
      refine x_callV hC kv_MessageCoderModel_218 (c_MessageCoderModel_common (o0 := o0) (ga := ga) (h8 := h8) (hr := hr) (hA := hA) (hp := hpa) (hq := hpc)) o0 rfl rfl (by decide) rfl rfl rfl (Nat.le_of_ble_eq_true rfl) (by decide) d_MessageCoderModel_areEqual_44 (fun r9 F9 z9 hp9 => ?_)
      obtain ⟨b81_44, rfl, h9c, j0, j1, j2, hag9⟩ := hp9
      rw [h9c]
      clear h9c z9
      generalize F9 = F2 at *
      have h2 : F2 (m + 2) = some (.inr (0, 8, fun b9 => .int (nI (l2 b9)))) := (hag9 _ (by omega)).trans h2
      have h3 : F2 (m + 3) = some (.inr (0, 8, fun b9 => .int (nI (v3 b9)))) := (hag9 _ (by omega)).trans h3
      have h4 : F2 (m + 4) = some (.inr (0, 8, fun b9 => .int (nI (r4 b9)))) := (hag9 _ (by omega)).trans h4
      have h5 : F2 (m + 5) = some (.inr (0, 8, fun b9 => .int (nI (w5 b9)))) := (hag9 _ (by omega)).trans h5
      have h6 : F2 (m + 6) = some (.inr (0, 112, fun b9 => .int (nI (b6 b9)))) := (hag9 _ (by omega)).trans h6
      have h7 : F2 (m + 7) = some (.inr (0, 16, fun b9 => .int (nI (d7 b9)))) := (hag9 _ (by omega)).trans h7
      have h9 : F2 (m + 9) = some (.inr (1, 40, fun b9 => .int (nI (ln b9)))) := (hag9 _ (by omega)).trans h9
      have hi : F2 (m + 10) = some (.inr (1, 60, fun b9 => .int (nI (ip b9)))) := (hag9 _ (by omega)).trans hi
      have hcm : F2 (m + 11) = some (.inr (0, 183, fun b9 => .int (nI (cs b9)))) := (hag9 _ (by omega)).trans hcm
      have o0 : F2 (m) = some (.inl (10, [.int (nI ((if mOk A a ∧ mOk A c then 0 else 1))), .ref (m + 1), .int (nI (un)), .int (nI (sv)), .int rs, .ref (m + 2), .ref (m + 3), .ref (m + 4), .ref (m + 5), .ref (m + 6), .int (nI (bm)), .ref (m + 7), .int (nI (dm)), .ref (m + 8), .ref (m + 9), .int (nI (lnn)), .ref (m + 10), .int (nI (pn)), .int (nI (he)), .int er, .int ep, .int fc, .ref (m + 11), .int (nI (cn))])) := j0
      have ga : F2 (m + 1) = some (.inr (0, 4730, fun b9 => .int (nI (g b9)))) := j1
      have h8 : F2 (m + 8) = some (.inr (0, 17, fun b9 => .int (nI (b81_44 b9)))) := j2
      have hag : ∀ a9 : Nat, (a9 < m ∨ m + 12 ≤ a9) → F2 a9 = F a9 := fun a9 q0 => (hag9 a9 (by omega)).trans (hag a9 q0)
      have hg_44 := hag9
      clear hag9
      refine x_aload_n hC d_MessageCoderModel_areEqual_47 rfl rfl ?_
      refine x_iload_n hC d_MessageCoderModel_areEqual_48 rfl rfl ?_
      refine x_iconst hC d_MessageCoderModel_areEqual_49 (v := nI 2) (by decide) ?_
      refine x_callV hC kv_MessageCoderModel_81 (c_MessageCoderModel_m (o0 := o0) (ga := ga) (hpw := by omega)) o0 rfl rfl (by decide) rfl rfl rfl (Nat.le_of_ble_eq_true rfl) (by decide) d_MessageCoderModel_areEqual_50 (fun r9 F9 z9 hp9 => ?_)
      obtain ⟨rfl, h9b, h9c⟩ := hp9
      rw [h9b, h9c]
      clear h9b h9c F9 z9
      refine x_top (v := (nI ((A.2.2.1.2.2 (mIx A a)).2.2.1))) (congrArg nI (qm _ hpa).2.2.1) ?_
      refine x_icmpN_ne hC d_MessageCoderModel_areEqual_53 (tgt := 60) (by decide) (by omega) (by omega) (fun c_53 => ?_) (fun c_53 => ?_)
      · skip
        refine x_iconst hC d_MessageCoderModel_areEqual_60 (v := nI 0) (by decide) ?_
        exact hret _ _ _ _ _ _ _ d_MessageCoderModel_areEqual_61 (by decide) (by decide) rfl (⟨congrArg (fun q => some (Value.int q)) (xb_f0 (p := (mOk A a ∧ mOk A c) ∧ (A.2.2.1.2.2 (mIx A a)).2.2.1 = (A.2.2.1.2.2 (mIx A c)).2.2.1 ∧ eqTo (A.2.2.1.2.2 (mIx A a)).2.2.2 (A.2.2.1.2.2 (mIx A c)).2.2.2 (A.2.2.1.2.2 (mIx A a)).2.2.1 = true) (fun h9 => c_53 (by rw [← h9.2.1]; exact (lcs_eq _ _ _).mpr h9.2.2))), rfl, ⟨_, _, _, _, _, _, _, _, _, _, _, _, _, _, _, _, _, o0, ga, h2, h3, h4, h5, h6, h7, h8, h9, hi, hcm, hg, hln, hip⟩, hag⟩)
      · skip
        refine x_iconst hC d_MessageCoderModel_areEqual_56 (v := nI 1) (by decide) ?_
        refine x_goto hC d_MessageCoderModel_areEqual_57 (tgt := 61) (by decide) ?_
        exact hret _ _ _ _ _ _ _ d_MessageCoderModel_areEqual_61 (by decide) (by decide) rfl (⟨congrArg (fun q => some (Value.int q)) (xb_t1 (p := (mOk A a ∧ mOk A c) ∧ (A.2.2.1.2.2 (mIx A a)).2.2.1 = (A.2.2.1.2.2 (mIx A c)).2.2.1 ∧ eqTo (A.2.2.1.2.2 (mIx A a)).2.2.2 (A.2.2.1.2.2 (mIx A c)).2.2.2 (A.2.2.1.2.2 (mIx A a)).2.2.1 = true) ⟨c_6, c_37, (lcs_eq _ _ _).mp (by have h9 := c_53; rw [← c_37] at h9; exact h9)⟩), rfl, ⟨_, _, _, _, _, _, _, _, _, _, _, _, _, _, _, _, _, o0, ga, h2, h3, h4, h5, h6, h7, h8, h9, hi, hcm, hg, hln, hip⟩, hag⟩)
  · skip
    refine x_iconst hC d_MessageCoderModel_areEqual_9 (v := nI 0) (by decide) ?_
    exact hret _ _ _ _ _ _ _ d_MessageCoderModel_areEqual_10 (by decide) (by decide) rfl (⟨congrArg (fun q => some (Value.int q)) (xb_f0 (p := (mOk A a ∧ mOk A c) ∧ (A.2.2.1.2.2 (mIx A a)).2.2.1 = (A.2.2.1.2.2 (mIx A c)).2.2.1 ∧ eqTo (A.2.2.1.2.2 (mIx A a)).2.2.2 (A.2.2.1.2.2 (mIx A c)).2.2.2 (A.2.2.1.2.2 (mIx A a)).2.2.1 = true) (fun h9 => c_6 h9.1)), rfl, ⟨_, _, _, _, _, _, _, _, _, _, _, _, _, _, _, _, _, o0, ga, h2, h3, h4, h5, h6, h7, h8, h9, hi, hcm, hg, hln, hip⟩, hag⟩)

theorem d_MessageCoderModel_commonLength_0 : decode prog_14_method_82_code 0 = .ok (.aload_n 0, 1) := by decide +kernel
theorem d_MessageCoderModel_commonLength_1 : decode prog_14_method_82_code 1 = .ok (.iload_n 1, 1) := by decide +kernel
theorem d_MessageCoderModel_commonLength_2 : decode prog_14_method_82_code 2 = .ok (.iload_n 2, 1) := by decide +kernel
theorem d_MessageCoderModel_commonLength_3 : decode prog_14_method_82_code 3 = .ok (.invokevirtual 214, 3) := by decide +kernel
theorem d_MessageCoderModel_commonLength_6 : decode prog_14_method_82_code 6 = .ok (.ifCond .eq 20, 3) := by decide +kernel
theorem d_MessageCoderModel_commonLength_9 : decode prog_14_method_82_code 9 = .ok (.aload_n 0, 1) := by decide +kernel
theorem d_MessageCoderModel_commonLength_10 : decode prog_14_method_82_code 10 = .ok (.aload_n 0, 1) := by decide +kernel
theorem d_MessageCoderModel_commonLength_11 : decode prog_14_method_82_code 11 = .ok (.iload_n 1, 1) := by decide +kernel
theorem d_MessageCoderModel_commonLength_12 : decode prog_14_method_82_code 12 = .ok (.invokevirtual 85, 3) := by decide +kernel
theorem d_MessageCoderModel_commonLength_15 : decode prog_14_method_82_code 15 = .ok (.aload_n 0, 1) := by decide +kernel
theorem d_MessageCoderModel_commonLength_16 : decode prog_14_method_82_code 16 = .ok (.iload_n 2, 1) := by decide +kernel
theorem d_MessageCoderModel_commonLength_17 : decode prog_14_method_82_code 17 = .ok (.invokevirtual 85, 3) := by decide +kernel
theorem d_MessageCoderModel_commonLength_20 : decode prog_14_method_82_code 20 = .ok (.invokevirtual 218, 3) := by decide +kernel
theorem d_MessageCoderModel_commonLength_23 : decode prog_14_method_82_code 23 = .ok (.goto 4, 3) := by decide +kernel
theorem d_MessageCoderModel_commonLength_26 : decode prog_14_method_82_code 26 = .ok (.iconst 0, 1) := by decide +kernel
theorem d_MessageCoderModel_commonLength_27 : decode prog_14_method_82_code 27 = .ok (.ireturn, 1) := by decide +kernel
set_option maxHeartbeats 4000000 in
set_option maxRecDepth 20000 in
theorem c_MessageCoderModel_commonLength {P : xP} {F : xF} {z : Nat} {m : Nat} {th0 : Nat} {M : mcS} {a : Int32} {c : Int32} (hD : xMD F (m) (th0) (M)) (hI : mInv M) : xM P xy_MessageCoderModel_commonLength [.ref m, .int a, .int c] F (z) 0 0 (fun r9 F9 z9 => r9 = some (.int (nI (if mOk M.1 a ∧ mOk M.1 c then lcs (mAt M.1 a).2.2.2 (mAt M.1 c).2.2.2 (mAt M.1 a).2.2.1 (mAt M.1 c).2.2.1 else 0))) ∧ z9 = z ∧ xMD F9 (m) ((if mOk M.1 a ∧ mOk M.1 c then 0 else 1)) (M) ∧ (∀ a9 : Nat, (a9 < m ∨ m + 12 ≤ a9) → F9 a9 = F a9)) := by
  refine xM_i .int rfl (Nat.le_of_ble_eq_true rfl) (L0 := [some (.ref m), some (.int a), some (.int c)]) rfl rfl fun Θ hC hret => ?_
  have hag : ∀ a9 : Nat, (a9 < m ∨ m + 12 ≤ a9) → F a9 = F a9 := fun a9 _ => rfl
  obtain ⟨A, S, past, ⟨pn, psg⟩, ⟨lnn, lsg⟩, sv, pp, un, ep, fc⟩ := M
  obtain ⟨rs, er, bm, dm, he, cn, g, l2, v3, r4, w5, b6, d7, b8, ln, ip, cs, o0, ga, h2, h3, h4, h5, h6, h7, h8, h9, hi, hcm, hg, hln, hip⟩ := id hD
  obtain ⟨iA, iP, iS, hu8, hup, hs1, hty, hlz, hic, hlc⟩ := id hI
  have o0 : F (m) = some (.inl (10, [.int (nI (th0)), .ref (m + 1), .int (nI (un)), .int (nI (sv)), .int rs, .ref (m + 2), .ref (m + 3), .ref (m + 4), .ref (m + 5), .ref (m + 6), .int (nI (bm)), .ref (m + 7), .int (nI (dm)), .ref (m + 8), .ref (m + 9), .int (nI (lnn)), .ref (m + 10), .int (nI (pn)), .int (nI (he)), .int er, .int ep, .int fc, .ref (m + 11), .int (nI (cn))])) := o0
  have ga : F (m + 1) = some (.inr (0, 4730, fun b9 => .int (nI (g b9)))) := ga
  have h2 : F (m + 2) = some (.inr (0, 8, fun b9 => .int (nI (l2 b9)))) := h2
  have h3 : F (m + 3) = some (.inr (0, 8, fun b9 => .int (nI (v3 b9)))) := h3
  have h4 : F (m + 4) = some (.inr (0, 8, fun b9 => .int (nI (r4 b9)))) := h4
  have h5 : F (m + 5) = some (.inr (0, 8, fun b9 => .int (nI (w5 b9)))) := h5
  have h6 : F (m + 6) = some (.inr (0, 112, fun b9 => .int (nI (b6 b9)))) := h6
  have h7 : F (m + 7) = some (.inr (0, 16, fun b9 => .int (nI (d7 b9)))) := h7
  have h8 : F (m + 8) = some (.inr (0, 17, fun b9 => .int (nI (b8 b9)))) := h8
  have h9 : F (m + 9) = some (.inr (1, 40, fun b9 => .int (nI (ln b9)))) := h9
  have hi : F (m + 10) = some (.inr (1, 60, fun b9 => .int (nI (ip b9)))) := hi
  have hcm : F (m + 11) = some (.inr (0, 183, fun b9 => .int (nI (cs b9)))) := hcm
  have hln : ∀ j, j < lnn → ln j = lsg j := hln
  have hip : ∀ j, j < pn → ip j = psg j := hip
  have iA : aInv A := iA
  have hu8 : un ≤ 8 := hu8
  have hup : un ≤ pp := hup
  have hs1 : sv ≤ 1 := hs1
  have hty : pn ≤ 60 := hty
  have hlz : lnn ≤ 32 := hlz
  have hr : rRow g A := hg.1
  have hA : aInv A := iA
  obtain ⟨⟨q0, q1, q2, q3, q4, q5, q6, q7, q9⟩, qw, qd, qm, qf, qx, qb⟩ := id hr
  obtain ⟨⟨u1, u2, u3, u4, u5⟩, uw, ud, um, uo, ut, ux, ub, un9⟩ := id hA
  refine x_aload_n hC d_MessageCoderModel_commonLength_0 rfl rfl ?_
  refine x_iload_n hC d_MessageCoderModel_commonLength_1 rfl rfl ?_
  refine x_iload_n hC d_MessageCoderModel_commonLength_2 rfl rfl ?_
  refine x_callV hC kv_MessageCoderModel_214 (c_MessageCoderModel_areThere (o0 := o0) (ga := ga) (hr := hr) (hA := hA)) o0 rfl rfl (by decide) rfl rfl rfl (Nat.le_of_ble_eq_true rfl) (by decide) d_MessageCoderModel_commonLength_3 (fun r9 F9 z9 hp9 => ?_)
  obtain ⟨rfl, h9c, j0, j1, hag9⟩ := hp9
  rw [h9c]
  clear h9c z9
  generalize F9 = F1 at *
  have h2 : F1 (m + 2) = some (.inr (0, 8, fun b9 => .int (nI (l2 b9)))) := (hag9 _ (by omega)).trans h2
  have h3 : F1 (m + 3) = some (.inr (0, 8, fun b9 => .int (nI (v3 b9)))) := (hag9 _ (by omega)).trans h3
  have h4 : F1 (m + 4) = some (.inr (0, 8, fun b9 => .int (nI (r4 b9)))) := (hag9 _ (by omega)).trans h4
  have h5 : F1 (m + 5) = some (.inr (0, 8, fun b9 => .int (nI (w5 b9)))) := (hag9 _ (by omega)).trans h5
  have h6 : F1 (m + 6) = some (.inr (0, 112, fun b9 => .int (nI (b6 b9)))) := (hag9 _ (by omega)).trans h6
  have h7 : F1 (m + 7) = some (.inr (0, 16, fun b9 => .int (nI (d7 b9)))) := (hag9 _ (by omega)).trans h7
  have h8 : F1 (m + 8) = some (.inr (0, 17, fun b9 => .int (nI (b8 b9)))) := (hag9 _ (by omega)).trans h8
  have h9 : F1 (m + 9) = some (.inr (1, 40, fun b9 => .int (nI (ln b9)))) := (hag9 _ (by omega)).trans h9
  have hi : F1 (m + 10) = some (.inr (1, 60, fun b9 => .int (nI (ip b9)))) := (hag9 _ (by omega)).trans hi
  have hcm : F1 (m + 11) = some (.inr (0, 183, fun b9 => .int (nI (cs b9)))) := (hag9 _ (by omega)).trans hcm
  have o0 : F1 (m) = some (.inl (10, [.int (nI ((if mOk A a ∧ mOk A c then 0 else 1))), .ref (m + 1), .int (nI (un)), .int (nI (sv)), .int rs, .ref (m + 2), .ref (m + 3), .ref (m + 4), .ref (m + 5), .ref (m + 6), .int (nI (bm)), .ref (m + 7), .int (nI (dm)), .ref (m + 8), .ref (m + 9), .int (nI (lnn)), .ref (m + 10), .int (nI (pn)), .int (nI (he)), .int er, .int ep, .int fc, .ref (m + 11), .int (nI (cn))])) := j0
  have ga : F1 (m + 1) = some (.inr (0, 4730, fun b9 => .int (nI (g b9)))) := j1
  have hag : ∀ a9 : Nat, (a9 < m ∨ m + 12 ≤ a9) → F1 a9 = F a9 := fun a9 q0 => (hag9 a9 (by omega)).trans (hag a9 q0)
  have hg_3 := hag9
  clear hag9
  refine x_ifB_eq hC d_MessageCoderModel_commonLength_6 (tgt := 26) (by decide) (fun c_6 => ?_) (fun c_6 => ?_)
  · skip
    refine x_iconst hC d_MessageCoderModel_commonLength_26 (v := nI 0) (by decide) ?_
    exact hret _ _ _ _ _ _ _ d_MessageCoderModel_commonLength_27 (by decide) (by decide) rfl (⟨congrArg (fun q => some (Value.int (nI q))) ((if_neg c_6).symm), rfl, ⟨_, _, _, _, _, _, _, _, _, _, _, _, _, _, _, _, _, o0, ga, h2, h3, h4, h5, h6, h7, h8, h9, hi, hcm, hg, hln, hip⟩, hag⟩)
  · skip
    refine x_aload_n hC d_MessageCoderModel_commonLength_9 rfl rfl ?_
    refine x_aload_n hC d_MessageCoderModel_commonLength_10 rfl rfl ?_
    refine x_iload_n hC d_MessageCoderModel_commonLength_11 rfl rfl ?_
    refine x_callV hC kv_MessageCoderModel_85 (c_MessageCoderModel_place (o0 := o0) (ga := ga) (hr := hr) (hA := hA)) o0 rfl rfl (by decide) rfl rfl rfl (Nat.le_of_ble_eq_true rfl) (by decide) d_MessageCoderModel_commonLength_12 (fun r9 F9 z9 hp9 => ?_)
    obtain ⟨rfl, h9b, h9c⟩ := hp9
    rw [h9b, h9c]
    clear h9b h9c F9 z9
    refine x_top (v := (nI (mIx A a))) (plc_of c_6.1) ?_
    refine x_aload_n hC d_MessageCoderModel_commonLength_15 rfl rfl ?_
    refine x_iload_n hC d_MessageCoderModel_commonLength_16 rfl rfl ?_
    refine x_callV hC kv_MessageCoderModel_85 (c_MessageCoderModel_place (o0 := o0) (ga := ga) (hr := hr) (hA := hA)) o0 rfl rfl (by decide) rfl rfl rfl (Nat.le_of_ble_eq_true rfl) (by decide) d_MessageCoderModel_commonLength_17 (fun r9 F9 z9 hp9 => ?_)
    obtain ⟨rfl, h9b, h9c⟩ := hp9
    rw [h9b, h9c]
    clear h9b h9c F9 z9
    refine x_top (v := (nI (mIx A c))) (plc_of c_6.2) ?_
    refine x_callV hC kv_MessageCoderModel_218 (c_MessageCoderModel_common (o0 := o0) (ga := ga) (h8 := h8) (hr := hr) (hA := hA) (hp := c_6.1) (hq := c_6.2)) o0 rfl rfl (by decide) rfl rfl rfl (Nat.le_of_ble_eq_true rfl) (by decide) d_MessageCoderModel_commonLength_20 (fun r9 F9 z9 hp9 => ?_)
    obtain ⟨b81_20, rfl, h9c, j0, j1, j2, hag9⟩ := hp9
    rw [h9c]
    clear h9c z9
    generalize F9 = F2 at *
    have h2 : F2 (m + 2) = some (.inr (0, 8, fun b9 => .int (nI (l2 b9)))) := (hag9 _ (by omega)).trans h2
    have h3 : F2 (m + 3) = some (.inr (0, 8, fun b9 => .int (nI (v3 b9)))) := (hag9 _ (by omega)).trans h3
    have h4 : F2 (m + 4) = some (.inr (0, 8, fun b9 => .int (nI (r4 b9)))) := (hag9 _ (by omega)).trans h4
    have h5 : F2 (m + 5) = some (.inr (0, 8, fun b9 => .int (nI (w5 b9)))) := (hag9 _ (by omega)).trans h5
    have h6 : F2 (m + 6) = some (.inr (0, 112, fun b9 => .int (nI (b6 b9)))) := (hag9 _ (by omega)).trans h6
    have h7 : F2 (m + 7) = some (.inr (0, 16, fun b9 => .int (nI (d7 b9)))) := (hag9 _ (by omega)).trans h7
    have h9 : F2 (m + 9) = some (.inr (1, 40, fun b9 => .int (nI (ln b9)))) := (hag9 _ (by omega)).trans h9
    have hi : F2 (m + 10) = some (.inr (1, 60, fun b9 => .int (nI (ip b9)))) := (hag9 _ (by omega)).trans hi
    have hcm : F2 (m + 11) = some (.inr (0, 183, fun b9 => .int (nI (cs b9)))) := (hag9 _ (by omega)).trans hcm
    have o0 : F2 (m) = some (.inl (10, [.int (nI ((if mOk A a ∧ mOk A c then 0 else 1))), .ref (m + 1), .int (nI (un)), .int (nI (sv)), .int rs, .ref (m + 2), .ref (m + 3), .ref (m + 4), .ref (m + 5), .ref (m + 6), .int (nI (bm)), .ref (m + 7), .int (nI (dm)), .ref (m + 8), .ref (m + 9), .int (nI (lnn)), .ref (m + 10), .int (nI (pn)), .int (nI (he)), .int er, .int ep, .int fc, .ref (m + 11), .int (nI (cn))])) := j0
    have ga : F2 (m + 1) = some (.inr (0, 4730, fun b9 => .int (nI (g b9)))) := j1
    have h8 : F2 (m + 8) = some (.inr (0, 17, fun b9 => .int (nI (b81_20 b9)))) := j2
    have hag : ∀ a9 : Nat, (a9 < m ∨ m + 12 ≤ a9) → F2 a9 = F a9 := fun a9 q0 => (hag9 a9 (by omega)).trans (hag a9 q0)
    have hg_20 := hag9
    clear hag9
    refine x_goto hC d_MessageCoderModel_commonLength_23 (tgt := 27) (by decide) ?_
    exact hret _ _ _ _ _ _ _ d_MessageCoderModel_commonLength_27 (by decide) (by decide) rfl (⟨congrArg (fun q => some (Value.int (nI q))) ((if_pos c_6).symm), rfl, ⟨_, _, _, _, _, _, _, _, _, _, _, _, _, _, _, _, _, o0, ga, h2, h3, h4, h5, h6, h7, h8, h9, hi, hcm, hg, hln, hip⟩, hag⟩)

theorem d_MessageCoderModel_frameBit_0 : decode prog_14_method_85_code 0 = .ok (.aload_n 0, 1) := by decide +kernel
theorem d_MessageCoderModel_frameBit_1 : decode prog_14_method_85_code 1 = .ok (.iload_n 1, 1) := by decide +kernel
theorem d_MessageCoderModel_frameBit_2 : decode prog_14_method_85_code 2 = .ok (.iconst 0, 1) := by decide +kernel
theorem d_MessageCoderModel_frameBit_3 : decode prog_14_method_85_code 3 = .ok (.aload_n 0, 1) := by decide +kernel
theorem d_MessageCoderModel_frameBit_4 : decode prog_14_method_85_code 4 = .ok (.getfield 9, 3) := by decide +kernel
theorem d_MessageCoderModel_frameBit_7 : decode prog_14_method_85_code 7 = .ok (.bipush 7, 2) := by decide +kernel
theorem d_MessageCoderModel_frameBit_9 : decode prog_14_method_85_code 9 = .ok (.iaload, 1) := by decide +kernel
theorem d_MessageCoderModel_frameBit_10 : decode prog_14_method_85_code 10 = .ok (.iconst 1, 1) := by decide +kernel
theorem d_MessageCoderModel_frameBit_11 : decode prog_14_method_85_code 11 = .ok (.isub, 1) := by decide +kernel
theorem d_MessageCoderModel_frameBit_12 : decode prog_14_method_85_code 12 = .ok (.invokestatic 64, 3) := by decide +kernel
theorem d_MessageCoderModel_frameBit_15 : decode prog_14_method_85_code 15 = .ok (.invokevirtual 195, 3) := by decide +kernel
theorem d_MessageCoderModel_frameBit_18 : decode prog_14_method_85_code 18 = .ok (.ifCond .eq 16, 3) := by decide +kernel
theorem d_MessageCoderModel_frameBit_21 : decode prog_14_method_85_code 21 = .ok (.aload_n 0, 1) := by decide +kernel
theorem d_MessageCoderModel_frameBit_22 : decode prog_14_method_85_code 22 = .ok (.getfield 9, 3) := by decide +kernel
theorem d_MessageCoderModel_frameBit_25 : decode prog_14_method_85_code 25 = .ok (.sipush 234, 3) := by decide +kernel
theorem d_MessageCoderModel_frameBit_28 : decode prog_14_method_85_code 28 = .ok (.iload_n 1, 1) := by decide +kernel
theorem d_MessageCoderModel_frameBit_29 : decode prog_14_method_85_code 29 = .ok (.iadd, 1) := by decide +kernel
theorem d_MessageCoderModel_frameBit_30 : decode prog_14_method_85_code 30 = .ok (.iaload, 1) := by decide +kernel
theorem d_MessageCoderModel_frameBit_31 : decode prog_14_method_85_code 31 = .ok (.goto 4, 3) := by decide +kernel
theorem d_MessageCoderModel_frameBit_34 : decode prog_14_method_85_code 34 = .ok (.iconst 0, 1) := by decide +kernel
theorem d_MessageCoderModel_frameBit_35 : decode prog_14_method_85_code 35 = .ok (.ireturn, 1) := by decide +kernel
set_option maxHeartbeats 4000000 in
set_option maxRecDepth 20000 in
theorem c_MessageCoderModel_frameBit {P : xP} {F : xF} {z : Nat} {m : Nat} {th0 : Nat} {M : mcS} {i : Int32} (hD : xMD F (m) (th0) (M)) (hI : mInv M) : xM P xy_MessageCoderModel_frameBit [.ref m, .int i] F (z) 0 0 (fun r9 F9 z9 => r9 = some (.int (nI (if 0 ≤ i ∧ i < nI (M.1.2.2.2.1.1 * 7) then bitP (M.1.2.2.2.1.2.1 (i.toNatClampNeg / 7)) (i.toNatClampNeg % 7 + 1) else 0))) ∧ z9 = z ∧ xMD F9 (m) ((if 0 ≤ i ∧ i < nI (M.1.2.2.2.1.1 * 7) then 0 else 1)) (M) ∧ (∀ a9 : Nat, (a9 < m ∨ m + 12 ≤ a9) → F9 a9 = F a9)) := by
  refine xM_i .int rfl (Nat.le_of_ble_eq_true rfl) (L0 := [some (.ref m), some (.int i)]) rfl rfl fun Θ hC hret => ?_
  have hag : ∀ a9 : Nat, (a9 < m ∨ m + 12 ≤ a9) → F a9 = F a9 := fun a9 _ => rfl
  obtain ⟨A, S, past, ⟨pn, psg⟩, ⟨lnn, lsg⟩, sv, pp, un, ep, fc⟩ := M
  obtain ⟨rs, er, bm, dm, he, cn, g, l2, v3, r4, w5, b6, d7, b8, ln, ip, cs, o0, ga, h2, h3, h4, h5, h6, h7, h8, h9, hi, hcm, hg, hln, hip⟩ := id hD
  obtain ⟨iA, iP, iS, hu8, hup, hs1, hty, hlz, hic, hlc⟩ := id hI
  have o0 : F (m) = some (.inl (10, [.int (nI (th0)), .ref (m + 1), .int (nI (un)), .int (nI (sv)), .int rs, .ref (m + 2), .ref (m + 3), .ref (m + 4), .ref (m + 5), .ref (m + 6), .int (nI (bm)), .ref (m + 7), .int (nI (dm)), .ref (m + 8), .ref (m + 9), .int (nI (lnn)), .ref (m + 10), .int (nI (pn)), .int (nI (he)), .int er, .int ep, .int fc, .ref (m + 11), .int (nI (cn))])) := o0
  have ga : F (m + 1) = some (.inr (0, 4730, fun b9 => .int (nI (g b9)))) := ga
  have h2 : F (m + 2) = some (.inr (0, 8, fun b9 => .int (nI (l2 b9)))) := h2
  have h3 : F (m + 3) = some (.inr (0, 8, fun b9 => .int (nI (v3 b9)))) := h3
  have h4 : F (m + 4) = some (.inr (0, 8, fun b9 => .int (nI (r4 b9)))) := h4
  have h5 : F (m + 5) = some (.inr (0, 8, fun b9 => .int (nI (w5 b9)))) := h5
  have h6 : F (m + 6) = some (.inr (0, 112, fun b9 => .int (nI (b6 b9)))) := h6
  have h7 : F (m + 7) = some (.inr (0, 16, fun b9 => .int (nI (d7 b9)))) := h7
  have h8 : F (m + 8) = some (.inr (0, 17, fun b9 => .int (nI (b8 b9)))) := h8
  have h9 : F (m + 9) = some (.inr (1, 40, fun b9 => .int (nI (ln b9)))) := h9
  have hi : F (m + 10) = some (.inr (1, 60, fun b9 => .int (nI (ip b9)))) := hi
  have hcm : F (m + 11) = some (.inr (0, 183, fun b9 => .int (nI (cs b9)))) := hcm
  have hln : ∀ j, j < lnn → ln j = lsg j := hln
  have hip : ∀ j, j < pn → ip j = psg j := hip
  have iA : aInv A := iA
  have hu8 : un ≤ 8 := hu8
  have hup : un ≤ pp := hup
  have hs1 : sv ≤ 1 := hs1
  have hty : pn ≤ 60 := hty
  have hlz : lnn ≤ 32 := hlz
  have hr : rRow g A := hg.1
  have hA : aInv A := iA
  obtain ⟨⟨q0, q1, q2, q3, q4, q5, q6, q7, q9⟩, qw, qd, qm, qf, qx, qb⟩ := id hr
  obtain ⟨⟨u1, u2, u3, u4, u5⟩, uw, ud, um, uo, ut, ux, ub, un9⟩ := id hA
  refine x_aload_n hC d_MessageCoderModel_frameBit_0 rfl rfl ?_
  refine x_iload_n hC d_MessageCoderModel_frameBit_1 rfl rfl ?_
  refine x_iconst hC d_MessageCoderModel_frameBit_2 (v := nI 0) (by decide) ?_
  refine x_aload_n hC d_MessageCoderModel_frameBit_3 rfl rfl ?_
  refine x_getf hC kf_MessageCoderModel_9 o0 rfl d_MessageCoderModel_frameBit_4 ?_
  refine x_bipush hC d_MessageCoderModel_frameBit_7 (v := nI 7) (by decide) ?_
  refine x_iald hC ga (j := 7) ⟨rfl, by omega, by omega⟩ (x := nI (A.2.2.2.1.1 * 7)) (congrArg nI q7) d_MessageCoderModel_frameBit_9 ?_
  refine x_iconst hC d_MessageCoderModel_frameBit_10 (v := nI 1) (by decide) ?_
  refine x_isub hC d_MessageCoderModel_frameBit_11 (v := (nI (A.2.2.2.1.1 * 7) - nI 1)) rfl ?_
  refine x_callS hC ks_MessageCoderModel_64 (c_MessageCoderModel_in ) (by decide) rfl rfl rfl (Nat.le_of_ble_eq_true rfl) (by decide) d_MessageCoderModel_frameBit_12 (fun r9 F9 z9 hp9 => ?_)
  obtain ⟨rfl, h9b, h9c⟩ := hp9
  rw [h9b, h9c]
  clear h9b h9c F9 z9
  refine x_top (v := (xb (0 ≤ i ∧ i < nI (A.2.2.2.1.1 * 7)))) (xb_c (fl_iff (by omega))) ?_
  refine x_callV hC kv_MessageCoderModel_195 (c_MessageCoderModel_isFine (o0 := o0)) o0 rfl rfl (by decide) rfl rfl rfl (Nat.le_of_ble_eq_true rfl) (by decide) d_MessageCoderModel_frameBit_15 (fun r9 F9 z9 hp9 => ?_)
  obtain ⟨rfl, h9c, j0, hag9⟩ := hp9
  rw [h9c]
  clear h9c z9
  generalize F9 = F1 at *
  have ga : F1 (m + 1) = some (.inr (0, 4730, fun b9 => .int (nI (g b9)))) := (hag9 _ (by omega)).trans ga
  have h2 : F1 (m + 2) = some (.inr (0, 8, fun b9 => .int (nI (l2 b9)))) := (hag9 _ (by omega)).trans h2
  have h3 : F1 (m + 3) = some (.inr (0, 8, fun b9 => .int (nI (v3 b9)))) := (hag9 _ (by omega)).trans h3
  have h4 : F1 (m + 4) = some (.inr (0, 8, fun b9 => .int (nI (r4 b9)))) := (hag9 _ (by omega)).trans h4
  have h5 : F1 (m + 5) = some (.inr (0, 8, fun b9 => .int (nI (w5 b9)))) := (hag9 _ (by omega)).trans h5
  have h6 : F1 (m + 6) = some (.inr (0, 112, fun b9 => .int (nI (b6 b9)))) := (hag9 _ (by omega)).trans h6
  have h7 : F1 (m + 7) = some (.inr (0, 16, fun b9 => .int (nI (d7 b9)))) := (hag9 _ (by omega)).trans h7
  have h8 : F1 (m + 8) = some (.inr (0, 17, fun b9 => .int (nI (b8 b9)))) := (hag9 _ (by omega)).trans h8
  have h9 : F1 (m + 9) = some (.inr (1, 40, fun b9 => .int (nI (ln b9)))) := (hag9 _ (by omega)).trans h9
  have hi : F1 (m + 10) = some (.inr (1, 60, fun b9 => .int (nI (ip b9)))) := (hag9 _ (by omega)).trans hi
  have hcm : F1 (m + 11) = some (.inr (0, 183, fun b9 => .int (nI (cs b9)))) := (hag9 _ (by omega)).trans hcm
  have o0 : F1 (m) = some (.inl (10, [.int (nI ((if (0 ≤ i ∧ i < nI (A.2.2.2.1.1 * 7)) then 0 else 1))), .ref (m + 1), .int (nI (un)), .int (nI (sv)), .int rs, .ref (m + 2), .ref (m + 3), .ref (m + 4), .ref (m + 5), .ref (m + 6), .int (nI (bm)), .ref (m + 7), .int (nI (dm)), .ref (m + 8), .ref (m + 9), .int (nI (lnn)), .ref (m + 10), .int (nI (pn)), .int (nI (he)), .int er, .int ep, .int fc, .ref (m + 11), .int (nI (cn))])) := j0
  have hag : ∀ a9 : Nat, (a9 < m ∨ m + 12 ≤ a9) → F1 a9 = F a9 := fun a9 q0 => (hag9 a9 (by omega)).trans (hag a9 q0)
  have hg_15 := hag9
  clear hag9
  refine x_ifB_eq hC d_MessageCoderModel_frameBit_18 (tgt := 34) (by decide) (fun c_18 => ?_) (fun c_18 => ?_)
  · skip
    refine x_iconst hC d_MessageCoderModel_frameBit_34 (v := nI 0) (by decide) ?_
    exact hret _ _ _ _ _ _ _ d_MessageCoderModel_frameBit_35 (by decide) (by decide) rfl (⟨congrArg (fun q => some (Value.int (nI q))) ((if_neg c_18).symm), rfl, ⟨_, _, _, _, _, _, _, _, _, _, _, _, _, _, _, _, _, o0, ga, h2, h3, h4, h5, h6, h7, h8, h9, hi, hcm, hg, hln, hip⟩, hag⟩)
  · skip
    have hie := i2n_of c_18.1
    have hi9 : i.toNatClampNeg < A.2.2.2.1.1 * 7 := i2n_lt c_18.1 c_18.2 (by omega)
    refine x_aload_n hC d_MessageCoderModel_frameBit_21 rfl rfl ?_
    refine x_getf hC kf_MessageCoderModel_9 o0 rfl d_MessageCoderModel_frameBit_22 ?_
    refine x_sipush hC d_MessageCoderModel_frameBit_25 (v := nI 234) (by decide) ?_
    refine x_iload_n hC d_MessageCoderModel_frameBit_28 rfl rfl ?_
    refine x_top (v := (nI (i.toNatClampNeg))) hie ?_
    refine x_iadd hC d_MessageCoderModel_frameBit_29 (v := (nI ((234) + (i.toNatClampNeg)))) (x_addN (by omega)) ?_
    refine x_iald hC ga (j := (234) + (i.toNatClampNeg)) ⟨rfl, by omega, by omega⟩ (x := nI (bitP (A.2.2.2.1.2.1 (i.toNatClampNeg / 7)) (i.toNatClampNeg % 7 + 1))) (congrArg nI (by rw [show 234 + i.toNatClampNeg = 234 + 7 * (i.toNatClampNeg / 7) + i.toNatClampNeg % 7 by omega]; exact qb _ (by omega) _ (by omega))) d_MessageCoderModel_frameBit_30 ?_
    refine x_goto hC d_MessageCoderModel_frameBit_31 (tgt := 35) (by decide) ?_
    exact hret _ _ _ _ _ _ _ d_MessageCoderModel_frameBit_35 (by decide) (by decide) rfl (⟨congrArg (fun q => some (Value.int (nI q))) ((if_pos c_18).symm), rfl, ⟨_, _, _, _, _, _, _, _, _, _, _, _, _, _, _, _, _, o0, ga, h2, h3, h4, h5, h6, h7, h8, h9, hi, hcm, hg, hln, hip⟩, hag⟩)

theorem d_MessageCoderModel_isBlock_0 : decode prog_14_method_86_code 0 = .ok (.aload_n 0, 1) := by decide +kernel
theorem d_MessageCoderModel_isBlock_1 : decode prog_14_method_86_code 1 = .ok (.iload_n 1, 1) := by decide +kernel
theorem d_MessageCoderModel_isBlock_2 : decode prog_14_method_86_code 2 = .ok (.iconst 0, 1) := by decide +kernel
theorem d_MessageCoderModel_isBlock_3 : decode prog_14_method_86_code 3 = .ok (.aload_n 0, 1) := by decide +kernel
theorem d_MessageCoderModel_isBlock_4 : decode prog_14_method_86_code 4 = .ok (.getfield 9, 3) := by decide +kernel
theorem d_MessageCoderModel_isBlock_7 : decode prog_14_method_86_code 7 = .ok (.bipush 7, 2) := by decide +kernel
theorem d_MessageCoderModel_isBlock_9 : decode prog_14_method_86_code 9 = .ok (.iaload, 1) := by decide +kernel
theorem d_MessageCoderModel_isBlock_10 : decode prog_14_method_86_code 10 = .ok (.bipush 7, 2) := by decide +kernel
theorem d_MessageCoderModel_isBlock_12 : decode prog_14_method_86_code 12 = .ok (.idiv, 1) := by decide +kernel
theorem d_MessageCoderModel_isBlock_13 : decode prog_14_method_86_code 13 = .ok (.iconst 1, 1) := by decide +kernel
theorem d_MessageCoderModel_isBlock_14 : decode prog_14_method_86_code 14 = .ok (.isub, 1) := by decide +kernel
theorem d_MessageCoderModel_isBlock_15 : decode prog_14_method_86_code 15 = .ok (.invokestatic 64, 3) := by decide +kernel
theorem d_MessageCoderModel_isBlock_18 : decode prog_14_method_86_code 18 = .ok (.invokevirtual 195, 3) := by decide +kernel
theorem d_MessageCoderModel_isBlock_21 : decode prog_14_method_86_code 21 = .ok (.ireturn, 1) := by decide +kernel
set_option maxHeartbeats 4000000 in
set_option maxRecDepth 20000 in
theorem c_MessageCoderModel_isBlock {P : xP} {F : xF} {z : Nat} {m : Nat} {th : Nat} {ch : Nat} {sv : Nat} {rs : Int32} {bm : Nat} {dm : Nat} {lz : Nat} {ty : Nat} {he : Nat} {er : Int32} {ea : Int32} {fa : Int32} {cn : Nat} {g : Nat → Nat} {A : aS} {i : Int32} (o0 : F (m) = some (.inl (10, [.int (nI (th)), .ref (m + 1), .int (nI (ch)), .int (nI (sv)), .int rs, .ref (m + 2), .ref (m + 3), .ref (m + 4), .ref (m + 5), .ref (m + 6), .int (nI (bm)), .ref (m + 7), .int (nI (dm)), .ref (m + 8), .ref (m + 9), .int (nI (lz)), .ref (m + 10), .int (nI (ty)), .int (nI (he)), .int er, .int ea, .int fa, .ref (m + 11), .int (nI (cn))]))) (ga : F (m + 1) = some (.inr (0, 4730, fun b9 => .int (nI (g b9))))) (hr : rRow g A) (hA : aInv A) : xM P xy_MessageCoderModel_isBlock [.ref m, .int i] F (z) 0 0 (fun r9 F9 z9 => r9 = some (.int (xb (0 ≤ i ∧ i < nI A.2.2.2.1.1))) ∧ z9 = z ∧ F9 (m) = some (.inl (10, [.int (nI ((if 0 ≤ i ∧ i < nI A.2.2.2.1.1 then 0 else 1))), .ref (m + 1), .int (nI (ch)), .int (nI (sv)), .int rs, .ref (m + 2), .ref (m + 3), .ref (m + 4), .ref (m + 5), .ref (m + 6), .int (nI (bm)), .ref (m + 7), .int (nI (dm)), .ref (m + 8), .ref (m + 9), .int (nI (lz)), .ref (m + 10), .int (nI (ty)), .int (nI (he)), .int er, .int ea, .int fa, .ref (m + 11), .int (nI (cn))])) ∧ F9 (m + 1) = some (.inr (0, 4730, fun b9 => .int (nI (g b9)))) ∧ (∀ a9 : Nat, (a9 < m ∨ m + 1 ≤ a9) → F9 a9 = F a9)) := by
  refine xM_i .boolean rfl (Nat.le_of_ble_eq_true rfl) (L0 := [some (.ref m), some (.int i)]) rfl rfl fun Θ hC hret => ?_
  have hag : ∀ a9 : Nat, (a9 < m ∨ m + 1 ≤ a9) → F a9 = F a9 := fun a9 _ => rfl
  obtain ⟨⟨q0, q1, q2, q3, q4, q5, q6, q7, q9⟩, qw, qd, qm, qf, qx, qb⟩ := id hr
  obtain ⟨⟨u1, u2, u3, u4, u5⟩, uw, ud, um, uo, ut, ux, ub, un9⟩ := id hA
  refine x_aload_n hC d_MessageCoderModel_isBlock_0 rfl rfl ?_
  refine x_iload_n hC d_MessageCoderModel_isBlock_1 rfl rfl ?_
  refine x_iconst hC d_MessageCoderModel_isBlock_2 (v := nI 0) (by decide) ?_
  refine x_aload_n hC d_MessageCoderModel_isBlock_3 rfl rfl ?_
  refine x_getf hC kf_MessageCoderModel_9 o0 rfl d_MessageCoderModel_isBlock_4 ?_
  refine x_bipush hC d_MessageCoderModel_isBlock_7 (v := nI 7) (by decide) ?_
  refine x_iald hC ga (j := 7) ⟨rfl, by omega, by omega⟩ (x := nI (A.2.2.2.1.1 * 7)) (congrArg nI q7) d_MessageCoderModel_isBlock_9 ?_
  refine x_bipush hC d_MessageCoderModel_isBlock_10 (v := nI 7) (by decide) ?_
  refine x_idiv hC d_MessageCoderModel_isBlock_12 (x_ne0 (by omega) (by omega)) (v := (nI (A.2.2.2.1.1))) ((pk_div (by omega) (by omega) (by omega)).trans (congrArg nI (by omega))) ?_
  refine x_iconst hC d_MessageCoderModel_isBlock_13 (v := nI 1) (by decide) ?_
  refine x_isub hC d_MessageCoderModel_isBlock_14 (v := (nI A.2.2.2.1.1 - nI 1)) rfl ?_
  refine x_callS hC ks_MessageCoderModel_64 (c_MessageCoderModel_in ) (by decide) rfl rfl rfl (Nat.le_of_ble_eq_true rfl) (by decide) d_MessageCoderModel_isBlock_15 (fun r9 F9 z9 hp9 => ?_)
  obtain ⟨rfl, h9b, h9c⟩ := hp9
  rw [h9b, h9c]
  clear h9b h9c F9 z9
  refine x_top (v := (xb (0 ≤ i ∧ i < nI A.2.2.2.1.1))) (xb_c (fl_iff (by omega))) ?_
  refine x_callV hC kv_MessageCoderModel_195 (c_MessageCoderModel_isFine (o0 := o0)) o0 rfl rfl (by decide) rfl rfl rfl (Nat.le_of_ble_eq_true rfl) (by decide) d_MessageCoderModel_isBlock_18 (fun r9 F9 z9 hp9 => ?_)
  obtain ⟨rfl, h9c, j0, hag9⟩ := hp9
  rw [h9c]
  clear h9c z9
  generalize F9 = F1 at *
  have ga : F1 (m + 1) = some (.inr (0, 4730, fun b9 => .int (nI (g b9)))) := (hag9 _ (by omega)).trans ga
  have o0 : F1 (m) = some (.inl (10, [.int (nI ((if (0 ≤ i ∧ i < nI A.2.2.2.1.1) then 0 else 1))), .ref (m + 1), .int (nI (ch)), .int (nI (sv)), .int rs, .ref (m + 2), .ref (m + 3), .ref (m + 4), .ref (m + 5), .ref (m + 6), .int (nI (bm)), .ref (m + 7), .int (nI (dm)), .ref (m + 8), .ref (m + 9), .int (nI (lz)), .ref (m + 10), .int (nI (ty)), .int (nI (he)), .int er, .int ea, .int fa, .ref (m + 11), .int (nI (cn))])) := j0
  have hag : ∀ a9 : Nat, (a9 < m ∨ m + 1 ≤ a9) → F1 a9 = F a9 := fun a9 q0 => (hag9 a9 (by omega)).trans (hag a9 q0)
  have hg_18 := hag9
  clear hag9
  exact hret _ _ _ _ _ _ _ d_MessageCoderModel_isBlock_21 (by decide) (by decide) xb_nar (⟨rfl, rfl, o0, ga, hag⟩)

theorem d_MessageCoderModel_syndrome_0 : decode prog_14_method_87_code 0 = .ok (.aload_n 0, 1) := by decide +kernel
theorem d_MessageCoderModel_syndrome_1 : decode prog_14_method_87_code 1 = .ok (.iload_n 1, 1) := by decide +kernel
theorem d_MessageCoderModel_syndrome_2 : decode prog_14_method_87_code 2 = .ok (.invokevirtual 221, 3) := by decide +kernel
theorem d_MessageCoderModel_syndrome_5 : decode prog_14_method_87_code 5 = .ok (.ifCond .eq 11, 3) := by decide +kernel
theorem d_MessageCoderModel_syndrome_8 : decode prog_14_method_87_code 8 = .ok (.aload_n 0, 1) := by decide +kernel
theorem d_MessageCoderModel_syndrome_9 : decode prog_14_method_87_code 9 = .ok (.iload_n 1, 1) := by decide +kernel
theorem d_MessageCoderModel_syndrome_10 : decode prog_14_method_87_code 10 = .ok (.invokevirtual 100, 3) := by decide +kernel
theorem d_MessageCoderModel_syndrome_13 : decode prog_14_method_87_code 13 = .ok (.goto 4, 3) := by decide +kernel
theorem d_MessageCoderModel_syndrome_16 : decode prog_14_method_87_code 16 = .ok (.iconst 0, 1) := by decide +kernel
theorem d_MessageCoderModel_syndrome_17 : decode prog_14_method_87_code 17 = .ok (.ireturn, 1) := by decide +kernel
set_option maxHeartbeats 4000000 in
set_option maxRecDepth 20000 in
theorem c_MessageCoderModel_syndrome {P : xP} {F : xF} {z : Nat} {m : Nat} {th0 : Nat} {M : mcS} {i : Int32} (hD : xMD F (m) (th0) (M)) (hI : mInv M) : xM P xy_MessageCoderModel_syndrome [.ref m, .int i] F (z) 0 0 (fun r9 F9 z9 => r9 = some (.int (nI (if 0 ≤ i ∧ i < nI M.1.2.2.2.1.1 then syn (M.1.2.2.2.1.2.1 i.toNatClampNeg) else 0))) ∧ z9 = z ∧ xMD F9 (m) ((if 0 ≤ i ∧ i < nI M.1.2.2.2.1.1 then 0 else 1)) (M) ∧ (∀ a9 : Nat, (a9 < m ∨ m + 12 ≤ a9) → F9 a9 = F a9)) := by
  refine xM_i .int rfl (Nat.le_of_ble_eq_true rfl) (L0 := [some (.ref m), some (.int i)]) rfl rfl fun Θ hC hret => ?_
  have hag : ∀ a9 : Nat, (a9 < m ∨ m + 12 ≤ a9) → F a9 = F a9 := fun a9 _ => rfl
  obtain ⟨A, S, past, ⟨pn, psg⟩, ⟨lnn, lsg⟩, sv, pp, un, ep, fc⟩ := M
  obtain ⟨rs, er, bm, dm, he, cn, g, l2, v3, r4, w5, b6, d7, b8, ln, ip, cs, o0, ga, h2, h3, h4, h5, h6, h7, h8, h9, hi, hcm, hg, hln, hip⟩ := id hD
  obtain ⟨iA, iP, iS, hu8, hup, hs1, hty, hlz, hic, hlc⟩ := id hI
  have o0 : F (m) = some (.inl (10, [.int (nI (th0)), .ref (m + 1), .int (nI (un)), .int (nI (sv)), .int rs, .ref (m + 2), .ref (m + 3), .ref (m + 4), .ref (m + 5), .ref (m + 6), .int (nI (bm)), .ref (m + 7), .int (nI (dm)), .ref (m + 8), .ref (m + 9), .int (nI (lnn)), .ref (m + 10), .int (nI (pn)), .int (nI (he)), .int er, .int ep, .int fc, .ref (m + 11), .int (nI (cn))])) := o0
  have ga : F (m + 1) = some (.inr (0, 4730, fun b9 => .int (nI (g b9)))) := ga
  have h2 : F (m + 2) = some (.inr (0, 8, fun b9 => .int (nI (l2 b9)))) := h2
  have h3 : F (m + 3) = some (.inr (0, 8, fun b9 => .int (nI (v3 b9)))) := h3
  have h4 : F (m + 4) = some (.inr (0, 8, fun b9 => .int (nI (r4 b9)))) := h4
  have h5 : F (m + 5) = some (.inr (0, 8, fun b9 => .int (nI (w5 b9)))) := h5
  have h6 : F (m + 6) = some (.inr (0, 112, fun b9 => .int (nI (b6 b9)))) := h6
  have h7 : F (m + 7) = some (.inr (0, 16, fun b9 => .int (nI (d7 b9)))) := h7
  have h8 : F (m + 8) = some (.inr (0, 17, fun b9 => .int (nI (b8 b9)))) := h8
  have h9 : F (m + 9) = some (.inr (1, 40, fun b9 => .int (nI (ln b9)))) := h9
  have hi : F (m + 10) = some (.inr (1, 60, fun b9 => .int (nI (ip b9)))) := hi
  have hcm : F (m + 11) = some (.inr (0, 183, fun b9 => .int (nI (cs b9)))) := hcm
  have hln : ∀ j, j < lnn → ln j = lsg j := hln
  have hip : ∀ j, j < pn → ip j = psg j := hip
  have iA : aInv A := iA
  have hu8 : un ≤ 8 := hu8
  have hup : un ≤ pp := hup
  have hs1 : sv ≤ 1 := hs1
  have hty : pn ≤ 60 := hty
  have hlz : lnn ≤ 32 := hlz
  have hr : rRow g A := hg.1
  have hA : aInv A := iA
  obtain ⟨⟨q0, q1, q2, q3, q4, q5, q6, q7, q9⟩, qw, qd, qm, qf, qx, qb⟩ := id hr
  obtain ⟨⟨u1, u2, u3, u4, u5⟩, uw, ud, um, uo, ut, ux, ub, un9⟩ := id hA
  refine x_aload_n hC d_MessageCoderModel_syndrome_0 rfl rfl ?_
  refine x_iload_n hC d_MessageCoderModel_syndrome_1 rfl rfl ?_
  refine x_callV hC kv_MessageCoderModel_221 (c_MessageCoderModel_isBlock (o0 := o0) (ga := ga) (hr := hr) (hA := hA)) o0 rfl rfl (by decide) rfl rfl rfl (Nat.le_of_ble_eq_true rfl) (by decide) d_MessageCoderModel_syndrome_2 (fun r9 F9 z9 hp9 => ?_)
  obtain ⟨rfl, h9c, j0, j1, hag9⟩ := hp9
  rw [h9c]
  clear h9c z9
  generalize F9 = F1 at *
  have h2 : F1 (m + 2) = some (.inr (0, 8, fun b9 => .int (nI (l2 b9)))) := (hag9 _ (by omega)).trans h2
  have h3 : F1 (m + 3) = some (.inr (0, 8, fun b9 => .int (nI (v3 b9)))) := (hag9 _ (by omega)).trans h3
  have h4 : F1 (m + 4) = some (.inr (0, 8, fun b9 => .int (nI (r4 b9)))) := (hag9 _ (by omega)).trans h4
  have h5 : F1 (m + 5) = some (.inr (0, 8, fun b9 => .int (nI (w5 b9)))) := (hag9 _ (by omega)).trans h5
  have h6 : F1 (m + 6) = some (.inr (0, 112, fun b9 => .int (nI (b6 b9)))) := (hag9 _ (by omega)).trans h6
  have h7 : F1 (m + 7) = some (.inr (0, 16, fun b9 => .int (nI (d7 b9)))) := (hag9 _ (by omega)).trans h7
  have h8 : F1 (m + 8) = some (.inr (0, 17, fun b9 => .int (nI (b8 b9)))) := (hag9 _ (by omega)).trans h8
  have h9 : F1 (m + 9) = some (.inr (1, 40, fun b9 => .int (nI (ln b9)))) := (hag9 _ (by omega)).trans h9
  have hi : F1 (m + 10) = some (.inr (1, 60, fun b9 => .int (nI (ip b9)))) := (hag9 _ (by omega)).trans hi
  have hcm : F1 (m + 11) = some (.inr (0, 183, fun b9 => .int (nI (cs b9)))) := (hag9 _ (by omega)).trans hcm
  have o0 : F1 (m) = some (.inl (10, [.int (nI ((if 0 ≤ i ∧ i < nI A.2.2.2.1.1 then 0 else 1))), .ref (m + 1), .int (nI (un)), .int (nI (sv)), .int rs, .ref (m + 2), .ref (m + 3), .ref (m + 4), .ref (m + 5), .ref (m + 6), .int (nI (bm)), .ref (m + 7), .int (nI (dm)), .ref (m + 8), .ref (m + 9), .int (nI (lnn)), .ref (m + 10), .int (nI (pn)), .int (nI (he)), .int er, .int ep, .int fc, .ref (m + 11), .int (nI (cn))])) := j0
  have ga : F1 (m + 1) = some (.inr (0, 4730, fun b9 => .int (nI (g b9)))) := j1
  have hag : ∀ a9 : Nat, (a9 < m ∨ m + 12 ≤ a9) → F1 a9 = F a9 := fun a9 q0 => (hag9 a9 (by omega)).trans (hag a9 q0)
  have hg_2 := hag9
  clear hag9
  refine x_ifB_eq hC d_MessageCoderModel_syndrome_5 (tgt := 16) (by decide) (fun c_5 => ?_) (fun c_5 => ?_)
  · skip
    refine x_iconst hC d_MessageCoderModel_syndrome_16 (v := nI 0) (by decide) ?_
    exact hret _ _ _ _ _ _ _ d_MessageCoderModel_syndrome_17 (by decide) (by decide) rfl (⟨congrArg (fun q => some (Value.int (nI q))) ((if_neg c_5).symm), rfl, ⟨_, _, _, _, _, _, _, _, _, _, _, _, _, _, _, _, _, o0, ga, h2, h3, h4, h5, h6, h7, h8, h9, hi, hcm, hg, hln, hip⟩, hag⟩)
  · skip
    have hie := i2n_of c_5.1
    have hi9 : i.toNatClampNeg < A.2.2.2.1.1 := i2n_lt c_5.1 c_5.2 (by omega)
    refine x_aload_n hC d_MessageCoderModel_syndrome_8 rfl rfl ?_
    refine x_iload_n hC d_MessageCoderModel_syndrome_9 rfl rfl ?_
    refine x_top (v := (nI (i.toNatClampNeg))) hie ?_
    refine x_callV hC kv_MessageCoderModel_100 (c_MessageCoderModel_syndromeOf (o0 := o0) (ga := ga) (hr := hr) (hA := hA) (hb := hi9)) o0 rfl rfl (by decide) rfl rfl rfl (Nat.le_of_ble_eq_true rfl) (by decide) d_MessageCoderModel_syndrome_10 (fun r9 F9 z9 hp9 => ?_)
    obtain ⟨rfl, h9b, h9c⟩ := hp9
    rw [h9b, h9c]
    clear h9b h9c F9 z9
    refine x_goto hC d_MessageCoderModel_syndrome_13 (tgt := 17) (by decide) ?_
    exact hret _ _ _ _ _ _ _ d_MessageCoderModel_syndrome_17 (by decide) (by decide) rfl (⟨congrArg (fun q => some (Value.int (nI q))) ((if_pos c_5).symm), rfl, ⟨_, _, _, _, _, _, _, _, _, _, _, _, _, _, _, _, _, o0, ga, h2, h3, h4, h5, h6, h7, h8, h9, hi, hcm, hg, hln, hip⟩, hag⟩)

theorem d_MessageCoderModel_correctedBits_0 : decode prog_14_method_88_code 0 = .ok (.aload_n 0, 1) := by decide +kernel
theorem d_MessageCoderModel_correctedBits_1 : decode prog_14_method_88_code 1 = .ok (.iload_n 1, 1) := by decide +kernel
theorem d_MessageCoderModel_correctedBits_2 : decode prog_14_method_88_code 2 = .ok (.invokevirtual 221, 3) := by decide +kernel
theorem d_MessageCoderModel_correctedBits_5 : decode prog_14_method_88_code 5 = .ok (.ifCond .eq 11, 3) := by decide +kernel
theorem d_MessageCoderModel_correctedBits_8 : decode prog_14_method_88_code 8 = .ok (.aload_n 0, 1) := by decide +kernel
theorem d_MessageCoderModel_correctedBits_9 : decode prog_14_method_88_code 9 = .ok (.iload_n 1, 1) := by decide +kernel
theorem d_MessageCoderModel_correctedBits_10 : decode prog_14_method_88_code 10 = .ok (.invokevirtual 109, 3) := by decide +kernel
theorem d_MessageCoderModel_correctedBits_13 : decode prog_14_method_88_code 13 = .ok (.goto 4, 3) := by decide +kernel
theorem d_MessageCoderModel_correctedBits_16 : decode prog_14_method_88_code 16 = .ok (.iconst 0, 1) := by decide +kernel
theorem d_MessageCoderModel_correctedBits_17 : decode prog_14_method_88_code 17 = .ok (.ireturn, 1) := by decide +kernel
set_option maxHeartbeats 4000000 in
set_option maxRecDepth 20000 in
theorem c_MessageCoderModel_correctedBits {P : xP} {F : xF} {z : Nat} {m : Nat} {th0 : Nat} {M : mcS} {i : Int32} (hD : xMD F (m) (th0) (M)) (hI : mInv M) : xM P xy_MessageCoderModel_correctedBits [.ref m, .int i] F (z) 0 0 (fun r9 F9 z9 => r9 = some (.int (nI (if 0 ≤ i ∧ i < nI M.1.2.2.2.1.1 then datN (corN (M.1.2.2.2.1.2.1 i.toNatClampNeg)) else 0))) ∧ z9 = z ∧ xMD F9 (m) ((if 0 ≤ i ∧ i < nI M.1.2.2.2.1.1 then 0 else 1)) (M) ∧ (∀ a9 : Nat, (a9 < m ∨ m + 12 ≤ a9) → F9 a9 = F a9)) := by
  refine xM_i .int rfl (Nat.le_of_ble_eq_true rfl) (L0 := [some (.ref m), some (.int i)]) rfl rfl fun Θ hC hret => ?_
  have hag : ∀ a9 : Nat, (a9 < m ∨ m + 12 ≤ a9) → F a9 = F a9 := fun a9 _ => rfl
  obtain ⟨A, S, past, ⟨pn, psg⟩, ⟨lnn, lsg⟩, sv, pp, un, ep, fc⟩ := M
  obtain ⟨rs, er, bm, dm, he, cn, g, l2, v3, r4, w5, b6, d7, b8, ln, ip, cs, o0, ga, h2, h3, h4, h5, h6, h7, h8, h9, hi, hcm, hg, hln, hip⟩ := id hD
  obtain ⟨iA, iP, iS, hu8, hup, hs1, hty, hlz, hic, hlc⟩ := id hI
  have o0 : F (m) = some (.inl (10, [.int (nI (th0)), .ref (m + 1), .int (nI (un)), .int (nI (sv)), .int rs, .ref (m + 2), .ref (m + 3), .ref (m + 4), .ref (m + 5), .ref (m + 6), .int (nI (bm)), .ref (m + 7), .int (nI (dm)), .ref (m + 8), .ref (m + 9), .int (nI (lnn)), .ref (m + 10), .int (nI (pn)), .int (nI (he)), .int er, .int ep, .int fc, .ref (m + 11), .int (nI (cn))])) := o0
  have ga : F (m + 1) = some (.inr (0, 4730, fun b9 => .int (nI (g b9)))) := ga
  have h2 : F (m + 2) = some (.inr (0, 8, fun b9 => .int (nI (l2 b9)))) := h2
  have h3 : F (m + 3) = some (.inr (0, 8, fun b9 => .int (nI (v3 b9)))) := h3
  have h4 : F (m + 4) = some (.inr (0, 8, fun b9 => .int (nI (r4 b9)))) := h4
  have h5 : F (m + 5) = some (.inr (0, 8, fun b9 => .int (nI (w5 b9)))) := h5
  have h6 : F (m + 6) = some (.inr (0, 112, fun b9 => .int (nI (b6 b9)))) := h6
  have h7 : F (m + 7) = some (.inr (0, 16, fun b9 => .int (nI (d7 b9)))) := h7
  have h8 : F (m + 8) = some (.inr (0, 17, fun b9 => .int (nI (b8 b9)))) := h8
  have h9 : F (m + 9) = some (.inr (1, 40, fun b9 => .int (nI (ln b9)))) := h9
  have hi : F (m + 10) = some (.inr (1, 60, fun b9 => .int (nI (ip b9)))) := hi
  have hcm : F (m + 11) = some (.inr (0, 183, fun b9 => .int (nI (cs b9)))) := hcm
  have hln : ∀ j, j < lnn → ln j = lsg j := hln
  have hip : ∀ j, j < pn → ip j = psg j := hip
  have iA : aInv A := iA
  have hu8 : un ≤ 8 := hu8
  have hup : un ≤ pp := hup
  have hs1 : sv ≤ 1 := hs1
  have hty : pn ≤ 60 := hty
  have hlz : lnn ≤ 32 := hlz
  have hr : rRow g A := hg.1
  have hA : aInv A := iA
  obtain ⟨⟨q0, q1, q2, q3, q4, q5, q6, q7, q9⟩, qw, qd, qm, qf, qx, qb⟩ := id hr
  obtain ⟨⟨u1, u2, u3, u4, u5⟩, uw, ud, um, uo, ut, ux, ub, un9⟩ := id hA
  refine x_aload_n hC d_MessageCoderModel_correctedBits_0 rfl rfl ?_
  refine x_iload_n hC d_MessageCoderModel_correctedBits_1 rfl rfl ?_
  refine x_callV hC kv_MessageCoderModel_221 (c_MessageCoderModel_isBlock (o0 := o0) (ga := ga) (hr := hr) (hA := hA)) o0 rfl rfl (by decide) rfl rfl rfl (Nat.le_of_ble_eq_true rfl) (by decide) d_MessageCoderModel_correctedBits_2 (fun r9 F9 z9 hp9 => ?_)
  obtain ⟨rfl, h9c, j0, j1, hag9⟩ := hp9
  rw [h9c]
  clear h9c z9
  generalize F9 = F1 at *
  have h2 : F1 (m + 2) = some (.inr (0, 8, fun b9 => .int (nI (l2 b9)))) := (hag9 _ (by omega)).trans h2
  have h3 : F1 (m + 3) = some (.inr (0, 8, fun b9 => .int (nI (v3 b9)))) := (hag9 _ (by omega)).trans h3
  have h4 : F1 (m + 4) = some (.inr (0, 8, fun b9 => .int (nI (r4 b9)))) := (hag9 _ (by omega)).trans h4
  have h5 : F1 (m + 5) = some (.inr (0, 8, fun b9 => .int (nI (w5 b9)))) := (hag9 _ (by omega)).trans h5
  have h6 : F1 (m + 6) = some (.inr (0, 112, fun b9 => .int (nI (b6 b9)))) := (hag9 _ (by omega)).trans h6
  have h7 : F1 (m + 7) = some (.inr (0, 16, fun b9 => .int (nI (d7 b9)))) := (hag9 _ (by omega)).trans h7
  have h8 : F1 (m + 8) = some (.inr (0, 17, fun b9 => .int (nI (b8 b9)))) := (hag9 _ (by omega)).trans h8
  have h9 : F1 (m + 9) = some (.inr (1, 40, fun b9 => .int (nI (ln b9)))) := (hag9 _ (by omega)).trans h9
  have hi : F1 (m + 10) = some (.inr (1, 60, fun b9 => .int (nI (ip b9)))) := (hag9 _ (by omega)).trans hi
  have hcm : F1 (m + 11) = some (.inr (0, 183, fun b9 => .int (nI (cs b9)))) := (hag9 _ (by omega)).trans hcm
  have o0 : F1 (m) = some (.inl (10, [.int (nI ((if 0 ≤ i ∧ i < nI A.2.2.2.1.1 then 0 else 1))), .ref (m + 1), .int (nI (un)), .int (nI (sv)), .int rs, .ref (m + 2), .ref (m + 3), .ref (m + 4), .ref (m + 5), .ref (m + 6), .int (nI (bm)), .ref (m + 7), .int (nI (dm)), .ref (m + 8), .ref (m + 9), .int (nI (lnn)), .ref (m + 10), .int (nI (pn)), .int (nI (he)), .int er, .int ep, .int fc, .ref (m + 11), .int (nI (cn))])) := j0
  have ga : F1 (m + 1) = some (.inr (0, 4730, fun b9 => .int (nI (g b9)))) := j1
  have hag : ∀ a9 : Nat, (a9 < m ∨ m + 12 ≤ a9) → F1 a9 = F a9 := fun a9 q0 => (hag9 a9 (by omega)).trans (hag a9 q0)
  have hg_2 := hag9
  clear hag9
  refine x_ifB_eq hC d_MessageCoderModel_correctedBits_5 (tgt := 16) (by decide) (fun c_5 => ?_) (fun c_5 => ?_)
  · skip
    refine x_iconst hC d_MessageCoderModel_correctedBits_16 (v := nI 0) (by decide) ?_
    exact hret _ _ _ _ _ _ _ d_MessageCoderModel_correctedBits_17 (by decide) (by decide) rfl (⟨congrArg (fun q => some (Value.int (nI q))) ((if_neg c_5).symm), rfl, ⟨_, _, _, _, _, _, _, _, _, _, _, _, _, _, _, _, _, o0, ga, h2, h3, h4, h5, h6, h7, h8, h9, hi, hcm, hg, hln, hip⟩, hag⟩)
  · skip
    have hie := i2n_of c_5.1
    have hi9 : i.toNatClampNeg < A.2.2.2.1.1 := i2n_lt c_5.1 c_5.2 (by omega)
    refine x_aload_n hC d_MessageCoderModel_correctedBits_8 rfl rfl ?_
    refine x_iload_n hC d_MessageCoderModel_correctedBits_9 rfl rfl ?_
    refine x_top (v := (nI (i.toNatClampNeg))) hie ?_
    refine x_callV hC kv_MessageCoderModel_109 (c_MessageCoderModel_numberOf (o0 := o0) (ga := ga) (hr := hr) (hA := hA) (hb := hi9)) o0 rfl rfl (by decide) rfl rfl rfl (Nat.le_of_ble_eq_true rfl) (by decide) d_MessageCoderModel_correctedBits_10 (fun r9 F9 z9 hp9 => ?_)
    obtain ⟨rfl, h9b, h9c⟩ := hp9
    rw [h9b, h9c]
    clear h9b h9c F9 z9
    refine x_goto hC d_MessageCoderModel_correctedBits_13 (tgt := 17) (by decide) ?_
    exact hret _ _ _ _ _ _ _ d_MessageCoderModel_correctedBits_17 (by decide) (by decide) rfl (⟨congrArg (fun q => some (Value.int (nI q))) ((if_pos c_5).symm), rfl, ⟨_, _, _, _, _, _, _, _, _, _, _, _, _, _, _, _, _, o0, ga, h2, h3, h4, h5, h6, h7, h8, h9, hi, hcm, hg, hln, hip⟩, hag⟩)

theorem d_MessageCoderModel_correctedBitsByDistance_0 : decode prog_14_method_89_code 0 = .ok (.aload_n 0, 1) := by decide +kernel
theorem d_MessageCoderModel_correctedBitsByDistance_1 : decode prog_14_method_89_code 1 = .ok (.iload_n 1, 1) := by decide +kernel
theorem d_MessageCoderModel_correctedBitsByDistance_2 : decode prog_14_method_89_code 2 = .ok (.invokevirtual 224, 3) := by decide +kernel
theorem d_MessageCoderModel_correctedBitsByDistance_5 : decode prog_14_method_89_code 5 = .ok (.ireturn, 1) := by decide +kernel
set_option maxHeartbeats 4000000 in
set_option maxRecDepth 20000 in
theorem c_MessageCoderModel_correctedBitsByDistance {P : xP} {F : xF} {z : Nat} {m : Nat} {th0 : Nat} {M : mcS} {i : Int32} (hD : xMD F (m) (th0) (M)) (hI : mInv M) : xM P xy_MessageCoderModel_correctedBitsByDistance [.ref m, .int i] F (z) 0 0 (fun r9 F9 z9 => r9 = some (.int (nI (if 0 ≤ i ∧ i < nI M.1.2.2.2.1.1 then datN (corN (M.1.2.2.2.1.2.1 i.toNatClampNeg)) else 0))) ∧ z9 = z ∧ xMD F9 (m) ((if 0 ≤ i ∧ i < nI M.1.2.2.2.1.1 then 0 else 1)) (M) ∧ (∀ a9 : Nat, (a9 < m ∨ m + 12 ≤ a9) → F9 a9 = F a9)) := by
  refine xM_i .int rfl (Nat.le_of_ble_eq_true rfl) (L0 := [some (.ref m), some (.int i)]) rfl rfl fun Θ hC hret => ?_
  have hag : ∀ a9 : Nat, (a9 < m ∨ m + 12 ≤ a9) → F a9 = F a9 := fun a9 _ => rfl
  obtain ⟨_, _, _, _, _, _, _, _, _, _, _, _, _, _, _, _, _, o0, -⟩ := id hD
  refine x_aload_n hC d_MessageCoderModel_correctedBitsByDistance_0 rfl rfl ?_
  refine x_iload_n hC d_MessageCoderModel_correctedBitsByDistance_1 rfl rfl ?_
  refine x_callV hC kv_MessageCoderModel_224 (c_MessageCoderModel_correctedBits (hD := hD) (hI := hI)) o0 rfl rfl (by decide) rfl rfl rfl (Nat.le_of_ble_eq_true rfl) (by decide) d_MessageCoderModel_correctedBitsByDistance_2 (fun r9 F9 z9 hp9 => ?_)
  obtain ⟨rfl, h9c, j0, hag9⟩ := hp9
  rw [h9c]
  clear h9c z9
  generalize F9 = F1 at *
  have hD : xMD F1 (m) ((if 0 ≤ i ∧ i < nI M.1.2.2.2.1.1 then 0 else 1)) (M) := j0
  have hag : ∀ a9 : Nat, (a9 < m ∨ m + 12 ≤ a9) → F1 a9 = F a9 := fun a9 q0 => (hag9 a9 (by omega)).trans (hag a9 q0)
  have hg_2 := hag9
  clear hag9
  exact hret _ _ _ _ _ _ _ d_MessageCoderModel_correctedBitsByDistance_5 (by decide) (by decide) rfl (⟨rfl, rfl, hD, hag⟩)

theorem d_MessageCoderModel_damagedBlocks_0 : decode prog_14_method_90_code 0 = .ok (.aload_n 0, 1) := by decide +kernel
theorem d_MessageCoderModel_damagedBlocks_1 : decode prog_14_method_90_code 1 = .ok (.iconst 0, 1) := by decide +kernel
theorem d_MessageCoderModel_damagedBlocks_2 : decode prog_14_method_90_code 2 = .ok (.putfield 51, 3) := by decide +kernel
theorem d_MessageCoderModel_damagedBlocks_5 : decode prog_14_method_90_code 5 = .ok (.aload_n 0, 1) := by decide +kernel
theorem d_MessageCoderModel_damagedBlocks_6 : decode prog_14_method_90_code 6 = .ok (.invokevirtual 182, 3) := by decide +kernel
theorem d_MessageCoderModel_damagedBlocks_9 : decode prog_14_method_90_code 9 = .ok (.ireturn, 1) := by decide +kernel
set_option maxHeartbeats 4000000 in
set_option maxRecDepth 20000 in
theorem c_MessageCoderModel_damagedBlocks {P : xP} {F : xF} {z : Nat} {m : Nat} {th0 : Nat} {M : mcS} (hD : xMD F (m) (th0) (M)) (hI : mInv M) : xM P xy_MessageCoderModel_damagedBlocks [.ref m] F (z) 0 0 (fun r9 F9 z9 => r9 = some (.int (nI (dmgN M.1.2.2.2.1.2.1 M.1.2.2.2.1.1))) ∧ z9 = z ∧ xMD F9 (m) (0) (M) ∧ (∀ a9 : Nat, (a9 < m ∨ m + 12 ≤ a9) → F9 a9 = F a9)) := by
  refine xM_i .int rfl (Nat.le_of_ble_eq_true rfl) (L0 := [some (.ref m)]) rfl rfl fun Θ hC hret => ?_
  have hag : ∀ a9 : Nat, (a9 < m ∨ m + 12 ≤ a9) → F a9 = F a9 := fun a9 _ => rfl
  obtain ⟨A, S, past, ⟨pn, psg⟩, ⟨lnn, lsg⟩, sv, pp, un, ep, fc⟩ := M
  obtain ⟨rs, er, bm, dm, he, cn, g, l2, v3, r4, w5, b6, d7, b8, ln, ip, cs, o0, ga, h2, h3, h4, h5, h6, h7, h8, h9, hi, hcm, hg, hln, hip⟩ := id hD
  obtain ⟨iA, iP, iS, hu8, hup, hs1, hty, hlz, hic, hlc⟩ := id hI
  have o0 : F (m) = some (.inl (10, [.int (nI (th0)), .ref (m + 1), .int (nI (un)), .int (nI (sv)), .int rs, .ref (m + 2), .ref (m + 3), .ref (m + 4), .ref (m + 5), .ref (m + 6), .int (nI (bm)), .ref (m + 7), .int (nI (dm)), .ref (m + 8), .ref (m + 9), .int (nI (lnn)), .ref (m + 10), .int (nI (pn)), .int (nI (he)), .int er, .int ep, .int fc, .ref (m + 11), .int (nI (cn))])) := o0
  have ga : F (m + 1) = some (.inr (0, 4730, fun b9 => .int (nI (g b9)))) := ga
  have h2 : F (m + 2) = some (.inr (0, 8, fun b9 => .int (nI (l2 b9)))) := h2
  have h3 : F (m + 3) = some (.inr (0, 8, fun b9 => .int (nI (v3 b9)))) := h3
  have h4 : F (m + 4) = some (.inr (0, 8, fun b9 => .int (nI (r4 b9)))) := h4
  have h5 : F (m + 5) = some (.inr (0, 8, fun b9 => .int (nI (w5 b9)))) := h5
  have h6 : F (m + 6) = some (.inr (0, 112, fun b9 => .int (nI (b6 b9)))) := h6
  have h7 : F (m + 7) = some (.inr (0, 16, fun b9 => .int (nI (d7 b9)))) := h7
  have h8 : F (m + 8) = some (.inr (0, 17, fun b9 => .int (nI (b8 b9)))) := h8
  have h9 : F (m + 9) = some (.inr (1, 40, fun b9 => .int (nI (ln b9)))) := h9
  have hi : F (m + 10) = some (.inr (1, 60, fun b9 => .int (nI (ip b9)))) := hi
  have hcm : F (m + 11) = some (.inr (0, 183, fun b9 => .int (nI (cs b9)))) := hcm
  have hln : ∀ j, j < lnn → ln j = lsg j := hln
  have hip : ∀ j, j < pn → ip j = psg j := hip
  have iA : aInv A := iA
  have hu8 : un ≤ 8 := hu8
  have hup : un ≤ pp := hup
  have hs1 : sv ≤ 1 := hs1
  have hty : pn ≤ 60 := hty
  have hlz : lnn ≤ 32 := hlz
  have hr : rRow g A := hg.1
  have hA : aInv A := iA
  obtain ⟨⟨q0, q1, q2, q3, q4, q5, q6, q7, q9⟩, qw, qd, qm, qf, qx, qb⟩ := id hr
  obtain ⟨⟨u1, u2, u3, u4, u5⟩, uw, ud, um, uo, ut, ux, ub, un9⟩ := id hA
  refine x_aload_n hC d_MessageCoderModel_damagedBlocks_0 rfl rfl ?_
  refine x_iconst hC d_MessageCoderModel_damagedBlocks_1 (v := nI 0) (by decide) ?_
  refine x_putf hC kf_MessageCoderModel_51 o0 (Nat.le_of_ble_eq_true rfl) rfl rfl d_MessageCoderModel_damagedBlocks_2 (fs1 := [.int (nI 0), .ref (m + 1), .int (nI (un)), .int (nI (sv)), .int rs, .ref (m + 2), .ref (m + 3), .ref (m + 4), .ref (m + 5), .ref (m + 6), .int (nI (bm)), .ref (m + 7), .int (nI (dm)), .ref (m + 8), .ref (m + 9), .int (nI (lnn)), .ref (m + 10), .int (nI (pn)), .int (nI (he)), .int er, .int ep, .int fc, .ref (m + 11), .int (nI (cn))]) rfl ?_
  generalize e1 : xup F (m) (.inl (10, [.int (nI 0), .ref (m + 1), .int (nI (un)), .int (nI (sv)), .int rs, .ref (m + 2), .ref (m + 3), .ref (m + 4), .ref (m + 5), .ref (m + 6), .int (nI (bm)), .ref (m + 7), .int (nI (dm)), .ref (m + 8), .ref (m + 9), .int (nI (lnn)), .ref (m + 10), .int (nI (pn)), .int (nI (he)), .int er, .int ep, .int fc, .ref (m + 11), .int (nI (cn))])) = F1
  have o0 : F1 (m) = some (.inl (10, [.int (nI 0), .ref (m + 1), .int (nI (un)), .int (nI (sv)), .int rs, .ref (m + 2), .ref (m + 3), .ref (m + 4), .ref (m + 5), .ref (m + 6), .int (nI (bm)), .ref (m + 7), .int (nI (dm)), .ref (m + 8), .ref (m + 9), .int (nI (lnn)), .ref (m + 10), .int (nI (pn)), .int (nI (he)), .int er, .int ep, .int fc, .ref (m + 11), .int (nI (cn))])) := by rw [← e1]; exact xup_eq
  have ga : F1 (m + 1) = some (.inr (0, 4730, fun b9 => .int (nI (g b9)))) := by rw [← e1]; exact (xup_ne (by omega)).trans ga
  have h2 : F1 (m + 2) = some (.inr (0, 8, fun b9 => .int (nI (l2 b9)))) := by rw [← e1]; exact (xup_ne (by omega)).trans h2
  have h3 : F1 (m + 3) = some (.inr (0, 8, fun b9 => .int (nI (v3 b9)))) := by rw [← e1]; exact (xup_ne (by omega)).trans h3
  have h4 : F1 (m + 4) = some (.inr (0, 8, fun b9 => .int (nI (r4 b9)))) := by rw [← e1]; exact (xup_ne (by omega)).trans h4
  have h5 : F1 (m + 5) = some (.inr (0, 8, fun b9 => .int (nI (w5 b9)))) := by rw [← e1]; exact (xup_ne (by omega)).trans h5
  have h6 : F1 (m + 6) = some (.inr (0, 112, fun b9 => .int (nI (b6 b9)))) := by rw [← e1]; exact (xup_ne (by omega)).trans h6
  have h7 : F1 (m + 7) = some (.inr (0, 16, fun b9 => .int (nI (d7 b9)))) := by rw [← e1]; exact (xup_ne (by omega)).trans h7
  have h8 : F1 (m + 8) = some (.inr (0, 17, fun b9 => .int (nI (b8 b9)))) := by rw [← e1]; exact (xup_ne (by omega)).trans h8
  have h9 : F1 (m + 9) = some (.inr (1, 40, fun b9 => .int (nI (ln b9)))) := by rw [← e1]; exact (xup_ne (by omega)).trans h9
  have hi : F1 (m + 10) = some (.inr (1, 60, fun b9 => .int (nI (ip b9)))) := by rw [← e1]; exact (xup_ne (by omega)).trans hi
  have hcm : F1 (m + 11) = some (.inr (0, 183, fun b9 => .int (nI (cs b9)))) := by rw [← e1]; exact (xup_ne (by omega)).trans hcm
  have hag : ∀ a9 : Nat, (a9 < m ∨ m + 12 ≤ a9) → F1 a9 = F a9 := fun a9 q0 => by rw [← e1]; exact (xup_ne (by omega)).trans (hag a9 q0)
  refine x_aload_n hC d_MessageCoderModel_damagedBlocks_5 rfl rfl ?_
  refine x_callV hC kv_MessageCoderModel_182 (c_MessageCoderModel_damaged (o0 := o0) (ga := ga) (hr := hr) (hA := hA)) o0 rfl rfl (by decide) rfl rfl rfl (Nat.le_of_ble_eq_true rfl) (by decide) d_MessageCoderModel_damagedBlocks_6 (fun r9 F9 z9 hp9 => ?_)
  obtain ⟨rfl, h9b, h9c⟩ := hp9
  rw [h9b, h9c]
  clear h9b h9c F9 z9
  exact hret _ _ _ _ _ _ _ d_MessageCoderModel_damagedBlocks_9 (by decide) (by decide) rfl (⟨rfl, rfl, ⟨_, _, _, _, _, _, _, _, _, _, _, _, _, _, _, _, _, o0, ga, h2, h3, h4, h5, h6, h7, h8, h9, hi, hcm, hg, hln, hip⟩, hag⟩)

theorem d_MessageCoderModel_isIntact_0 : decode prog_14_method_91_code 0 = .ok (.aload_n 0, 1) := by decide +kernel
theorem d_MessageCoderModel_isIntact_1 : decode prog_14_method_91_code 1 = .ok (.aload_n 0, 1) := by decide +kernel
theorem d_MessageCoderModel_isIntact_2 : decode prog_14_method_91_code 2 = .ok (.getfield 9, 3) := by decide +kernel
theorem d_MessageCoderModel_isIntact_5 : decode prog_14_method_91_code 5 = .ok (.bipush 7, 2) := by decide +kernel
theorem d_MessageCoderModel_isIntact_7 : decode prog_14_method_91_code 7 = .ok (.iaload, 1) := by decide +kernel
theorem d_MessageCoderModel_isIntact_8 : decode prog_14_method_91_code 8 = .ok (.ifCond .le 7, 3) := by decide +kernel
theorem d_MessageCoderModel_isIntact_11 : decode prog_14_method_91_code 11 = .ok (.iconst 1, 1) := by decide +kernel
theorem d_MessageCoderModel_isIntact_12 : decode prog_14_method_91_code 12 = .ok (.goto 4, 3) := by decide +kernel
theorem d_MessageCoderModel_isIntact_15 : decode prog_14_method_91_code 15 = .ok (.iconst 0, 1) := by decide +kernel
theorem d_MessageCoderModel_isIntact_16 : decode prog_14_method_91_code 16 = .ok (.invokevirtual 195, 3) := by decide +kernel
theorem d_MessageCoderModel_isIntact_19 : decode prog_14_method_91_code 19 = .ok (.ifCond .eq 14, 3) := by decide +kernel
theorem d_MessageCoderModel_isIntact_22 : decode prog_14_method_91_code 22 = .ok (.aload_n 0, 1) := by decide +kernel
theorem d_MessageCoderModel_isIntact_23 : decode prog_14_method_91_code 23 = .ok (.invokevirtual 188, 3) := by decide +kernel
theorem d_MessageCoderModel_isIntact_26 : decode prog_14_method_91_code 26 = .ok (.ifCond .eq 7, 3) := by decide +kernel
theorem d_MessageCoderModel_isIntact_29 : decode prog_14_method_91_code 29 = .ok (.iconst 1, 1) := by decide +kernel
theorem d_MessageCoderModel_isIntact_30 : decode prog_14_method_91_code 30 = .ok (.goto 4, 3) := by decide +kernel
theorem d_MessageCoderModel_isIntact_33 : decode prog_14_method_91_code 33 = .ok (.iconst 0, 1) := by decide +kernel
theorem d_MessageCoderModel_isIntact_34 : decode prog_14_method_91_code 34 = .ok (.ireturn, 1) := by decide +kernel
set_option maxHeartbeats 4000000 in
set_option maxRecDepth 20000 in
theorem c_MessageCoderModel_isIntact {P : xP} {F : xF} {z : Nat} {m : Nat} {th0 : Nat} {M : mcS} (hD : xMD F (m) (th0) (M)) (hI : mInv M) : xM P xy_MessageCoderModel_isIntact [.ref m] F (z) 0 0 (fun r9 F9 z9 => r9 = some (.int (xb (0 < M.1.2.2.2.1.1 ∧ sameA M.1))) ∧ z9 = z ∧ xMD F9 (m) ((if 0 < M.1.2.2.2.1.1 then 0 else 1)) (M) ∧ (∀ a9 : Nat, (a9 < m ∨ m + 12 ≤ a9) → F9 a9 = F a9)) := by
  refine xM_i .boolean rfl (Nat.le_of_ble_eq_true rfl) (L0 := [some (.ref m)]) rfl rfl fun Θ hC hret => ?_
  have hag : ∀ a9 : Nat, (a9 < m ∨ m + 12 ≤ a9) → F a9 = F a9 := fun a9 _ => rfl
  obtain ⟨A, S, past, ⟨pn, psg⟩, ⟨lnn, lsg⟩, sv, pp, un, ep, fc⟩ := M
  obtain ⟨rs, er, bm, dm, he, cn, g, l2, v3, r4, w5, b6, d7, b8, ln, ip, cs, o0, ga, h2, h3, h4, h5, h6, h7, h8, h9, hi, hcm, hg, hln, hip⟩ := id hD
  obtain ⟨iA, iP, iS, hu8, hup, hs1, hty, hlz, hic, hlc⟩ := id hI
  have o0 : F (m) = some (.inl (10, [.int (nI (th0)), .ref (m + 1), .int (nI (un)), .int (nI (sv)), .int rs, .ref (m + 2), .ref (m + 3), .ref (m + 4), .ref (m + 5), .ref (m + 6), .int (nI (bm)), .ref (m + 7), .int (nI (dm)), .ref (m + 8), .ref (m + 9), .int (nI (lnn)), .ref (m + 10), .int (nI (pn)), .int (nI (he)), .int er, .int ep, .int fc, .ref (m + 11), .int (nI (cn))])) := o0
  have ga : F (m + 1) = some (.inr (0, 4730, fun b9 => .int (nI (g b9)))) := ga
  have h2 : F (m + 2) = some (.inr (0, 8, fun b9 => .int (nI (l2 b9)))) := h2
  have h3 : F (m + 3) = some (.inr (0, 8, fun b9 => .int (nI (v3 b9)))) := h3
  have h4 : F (m + 4) = some (.inr (0, 8, fun b9 => .int (nI (r4 b9)))) := h4
  have h5 : F (m + 5) = some (.inr (0, 8, fun b9 => .int (nI (w5 b9)))) := h5
  have h6 : F (m + 6) = some (.inr (0, 112, fun b9 => .int (nI (b6 b9)))) := h6
  have h7 : F (m + 7) = some (.inr (0, 16, fun b9 => .int (nI (d7 b9)))) := h7
  have h8 : F (m + 8) = some (.inr (0, 17, fun b9 => .int (nI (b8 b9)))) := h8
  have h9 : F (m + 9) = some (.inr (1, 40, fun b9 => .int (nI (ln b9)))) := h9
  have hi : F (m + 10) = some (.inr (1, 60, fun b9 => .int (nI (ip b9)))) := hi
  have hcm : F (m + 11) = some (.inr (0, 183, fun b9 => .int (nI (cs b9)))) := hcm
  have hln : ∀ j, j < lnn → ln j = lsg j := hln
  have hip : ∀ j, j < pn → ip j = psg j := hip
  have iA : aInv A := iA
  have hu8 : un ≤ 8 := hu8
  have hup : un ≤ pp := hup
  have hs1 : sv ≤ 1 := hs1
  have hty : pn ≤ 60 := hty
  have hlz : lnn ≤ 32 := hlz
  have hr : rRow g A := hg.1
  have hA : aInv A := iA
  obtain ⟨⟨q0, q1, q2, q3, q4, q5, q6, q7, q9⟩, qw, qd, qm, qf, qx, qb⟩ := id hr
  obtain ⟨⟨u1, u2, u3, u4, u5⟩, uw, ud, um, uo, ut, ux, ub, un9⟩ := id hA
  refine x_aload_n hC d_MessageCoderModel_isIntact_0 rfl rfl ?_
  refine x_aload_n hC d_MessageCoderModel_isIntact_1 rfl rfl ?_
  refine x_getf hC kf_MessageCoderModel_9 o0 rfl d_MessageCoderModel_isIntact_2 ?_
  refine x_bipush hC d_MessageCoderModel_isIntact_5 (v := nI 7) (by decide) ?_
  refine x_iald hC ga (j := 7) ⟨rfl, by omega, by omega⟩ (x := nI (A.2.2.2.1.1 * 7)) (congrArg nI q7) d_MessageCoderModel_isIntact_7 ?_
  refine x_ifN_le hC d_MessageCoderModel_isIntact_8 (tgt := 15) (by decide) (by omega) (fun c_8 => ?_) (fun c_8 => ?_)
  · skip
    refine x_iconst hC d_MessageCoderModel_isIntact_15 (v := nI 0) (by decide) ?_
    refine x_top (v := (xb (0 < A.2.2.2.1.1))) (xb_f0 (by omega)) ?_
    refine x_callV hC kv_MessageCoderModel_195 (c_MessageCoderModel_isFine (o0 := o0)) o0 rfl rfl (by decide) rfl rfl rfl (Nat.le_of_ble_eq_true rfl) (by decide) d_MessageCoderModel_isIntact_16 (fun r9 F9 z9 hp9 => ?_)
    obtain ⟨rfl, h9c, j0, hag9⟩ := hp9
    rw [h9c]
    clear h9c z9
    generalize F9 = F1 at *
    have ga : F1 (m + 1) = some (.inr (0, 4730, fun b9 => .int (nI (g b9)))) := (hag9 _ (by omega)).trans ga
    have h2 : F1 (m + 2) = some (.inr (0, 8, fun b9 => .int (nI (l2 b9)))) := (hag9 _ (by omega)).trans h2
    have h3 : F1 (m + 3) = some (.inr (0, 8, fun b9 => .int (nI (v3 b9)))) := (hag9 _ (by omega)).trans h3
    have h4 : F1 (m + 4) = some (.inr (0, 8, fun b9 => .int (nI (r4 b9)))) := (hag9 _ (by omega)).trans h4
    have h5 : F1 (m + 5) = some (.inr (0, 8, fun b9 => .int (nI (w5 b9)))) := (hag9 _ (by omega)).trans h5
    have h6 : F1 (m + 6) = some (.inr (0, 112, fun b9 => .int (nI (b6 b9)))) := (hag9 _ (by omega)).trans h6
    have h7 : F1 (m + 7) = some (.inr (0, 16, fun b9 => .int (nI (d7 b9)))) := (hag9 _ (by omega)).trans h7
    have h8 : F1 (m + 8) = some (.inr (0, 17, fun b9 => .int (nI (b8 b9)))) := (hag9 _ (by omega)).trans h8
    have h9 : F1 (m + 9) = some (.inr (1, 40, fun b9 => .int (nI (ln b9)))) := (hag9 _ (by omega)).trans h9
    have hi : F1 (m + 10) = some (.inr (1, 60, fun b9 => .int (nI (ip b9)))) := (hag9 _ (by omega)).trans hi
    have hcm : F1 (m + 11) = some (.inr (0, 183, fun b9 => .int (nI (cs b9)))) := (hag9 _ (by omega)).trans hcm
    have o0 : F1 (m) = some (.inl (10, [.int (nI ((if (0 < A.2.2.2.1.1) then 0 else 1))), .ref (m + 1), .int (nI (un)), .int (nI (sv)), .int rs, .ref (m + 2), .ref (m + 3), .ref (m + 4), .ref (m + 5), .ref (m + 6), .int (nI (bm)), .ref (m + 7), .int (nI (dm)), .ref (m + 8), .ref (m + 9), .int (nI (lnn)), .ref (m + 10), .int (nI (pn)), .int (nI (he)), .int er, .int ep, .int fc, .ref (m + 11), .int (nI (cn))])) := j0
    have hag : ∀ a9 : Nat, (a9 < m ∨ m + 12 ≤ a9) → F1 a9 = F a9 := fun a9 q0 => (hag9 a9 (by omega)).trans (hag a9 q0)
    have hg_16 := hag9
    clear hag9
    refine x_ifB_eq hC d_MessageCoderModel_isIntact_19 (tgt := 33) (by decide) (fun c_19 => ?_) (fun c_19 => ?_)
    · skip
      refine x_iconst hC d_MessageCoderModel_isIntact_33 (v := nI 0) (by decide) ?_
      exact hret _ _ _ _ _ _ _ d_MessageCoderModel_isIntact_34 (by decide) (by decide) rfl (⟨congrArg (fun q => some (Value.int q)) (xb_f0 (p := 0 < A.2.2.2.1.1 ∧ sameA A) (fun h9 => c_19 h9.1)), rfl, ⟨_, _, _, _, _, _, _, _, _, _, _, _, _, _, _, _, _, o0, ga, h2, h3, h4, h5, h6, h7, h8, h9, hi, hcm, hg, hln, hip⟩, hag⟩)
    · skip
      refine x_aload_n hC d_MessageCoderModel_isIntact_22 rfl rfl ?_
      refine x_callV hC kv_MessageCoderModel_188 (c_MessageCoderModel_isSame (o0 := o0) (ga := ga) (h7 := h7) (hr := hr) (hA := hA) (hfk := c_19)) o0 rfl rfl (by decide) rfl rfl rfl (Nat.le_of_ble_eq_true rfl) (by decide) d_MessageCoderModel_isIntact_23 (fun r9 F9 z9 hp9 => ?_)
      obtain ⟨d1_23, rfl, h9c, j0, j1, j2, pk_23, hag9⟩ := hp9
      rw [h9c]
      clear h9c z9
      generalize F9 = F2 at *
      have h2 : F2 (m + 2) = some (.inr (0, 8, fun b9 => .int (nI (l2 b9)))) := (hag9 _ (by omega) (by omega)).trans h2
      have h3 : F2 (m + 3) = some (.inr (0, 8, fun b9 => .int (nI (v3 b9)))) := (hag9 _ (by omega) (by omega)).trans h3
      have h4 : F2 (m + 4) = some (.inr (0, 8, fun b9 => .int (nI (r4 b9)))) := (hag9 _ (by omega) (by omega)).trans h4
      have h5 : F2 (m + 5) = some (.inr (0, 8, fun b9 => .int (nI (w5 b9)))) := (hag9 _ (by omega) (by omega)).trans h5
      have h6 : F2 (m + 6) = some (.inr (0, 112, fun b9 => .int (nI (b6 b9)))) := (hag9 _ (by omega) (by omega)).trans h6
      have h8 : F2 (m + 8) = some (.inr (0, 17, fun b9 => .int (nI (b8 b9)))) := (hag9 _ (by omega) (by omega)).trans h8
      have h9 : F2 (m + 9) = some (.inr (1, 40, fun b9 => .int (nI (ln b9)))) := (hag9 _ (by omega) (by omega)).trans h9
      have hi : F2 (m + 10) = some (.inr (1, 60, fun b9 => .int (nI (ip b9)))) := (hag9 _ (by omega) (by omega)).trans hi
      have hcm : F2 (m + 11) = some (.inr (0, 183, fun b9 => .int (nI (cs b9)))) := (hag9 _ (by omega) (by omega)).trans hcm
      have o0 : F2 (m) = some (.inl (10, [.int (nI ((if (0 < A.2.2.2.1.1) then 0 else 1))), .ref (m + 1), .int (nI (un)), .int (nI (sv)), .int rs, .ref (m + 2), .ref (m + 3), .ref (m + 4), .ref (m + 5), .ref (m + 6), .int (nI (bm)), .ref (m + 7), .int (nI ((decA A).2.2.1)), .ref (m + 8), .ref (m + 9), .int (nI (lnn)), .ref (m + 10), .int (nI (pn)), .int (nI (he)), .int er, .int ep, .int fc, .ref (m + 11), .int (nI (cn))])) := j0
      have ga : F2 (m + 1) = some (.inr (0, 4730, fun b9 => .int (nI (g b9)))) := j1
      have h7 : F2 (m + 7) = some (.inr (0, 16, fun b9 => .int (nI (d1_23 b9)))) := j2
      have hag : ∀ a9 : Nat, (a9 < m ∨ m + 12 ≤ a9) → F2 a9 = F a9 := fun a9 q0 => (hag9 a9 (by omega) (by omega)).trans (hag a9 q0)
      have hg_23 := hag9
      clear hag9
      refine x_ifB_eq hC d_MessageCoderModel_isIntact_26 (tgt := 33) (by decide) (fun c_26 => ?_) (fun c_26 => ?_)
      · skip
        refine x_iconst hC d_MessageCoderModel_isIntact_33 (v := nI 0) (by decide) ?_
        exact hret _ _ _ _ _ _ _ d_MessageCoderModel_isIntact_34 (by decide) (by decide) rfl (⟨congrArg (fun q => some (Value.int q)) (xb_f0 (p := 0 < A.2.2.2.1.1 ∧ sameA A) (fun h9 => c_26 h9.2)), rfl, ⟨_, _, _, _, _, _, _, _, _, _, _, _, _, _, _, _, _, o0, ga, h2, h3, h4, h5, h6, h7, h8, h9, hi, hcm, hg, hln, hip⟩, hag⟩)
      · skip
        refine x_iconst hC d_MessageCoderModel_isIntact_29 (v := nI 1) (by decide) ?_
        refine x_goto hC d_MessageCoderModel_isIntact_30 (tgt := 34) (by decide) ?_
        exact hret _ _ _ _ _ _ _ d_MessageCoderModel_isIntact_34 (by decide) (by decide) rfl (⟨congrArg (fun q => some (Value.int q)) (xb_t1 (p := 0 < A.2.2.2.1.1 ∧ sameA A) ⟨c_19, c_26⟩), rfl, ⟨_, _, _, _, _, _, _, _, _, _, _, _, _, _, _, _, _, o0, ga, h2, h3, h4, h5, h6, h7, h8, h9, hi, hcm, hg, hln, hip⟩, hag⟩)
  · skip
    refine x_iconst hC d_MessageCoderModel_isIntact_11 (v := nI 1) (by decide) ?_
    refine x_goto hC d_MessageCoderModel_isIntact_12 (tgt := 16) (by decide) ?_
    refine x_top (v := (xb (0 < A.2.2.2.1.1))) (xb_t1 (by omega)) ?_
    refine x_callV hC kv_MessageCoderModel_195 (c_MessageCoderModel_isFine (o0 := o0)) o0 rfl rfl (by decide) rfl rfl rfl (Nat.le_of_ble_eq_true rfl) (by decide) d_MessageCoderModel_isIntact_16 (fun r9 F9 z9 hp9 => ?_)
    obtain ⟨rfl, h9c, j0, hag9⟩ := hp9
    rw [h9c]
    clear h9c z9
    generalize F9 = F3 at *
    have ga : F3 (m + 1) = some (.inr (0, 4730, fun b9 => .int (nI (g b9)))) := (hag9 _ (by omega)).trans ga
    have h2 : F3 (m + 2) = some (.inr (0, 8, fun b9 => .int (nI (l2 b9)))) := (hag9 _ (by omega)).trans h2
    have h3 : F3 (m + 3) = some (.inr (0, 8, fun b9 => .int (nI (v3 b9)))) := (hag9 _ (by omega)).trans h3
    have h4 : F3 (m + 4) = some (.inr (0, 8, fun b9 => .int (nI (r4 b9)))) := (hag9 _ (by omega)).trans h4
    have h5 : F3 (m + 5) = some (.inr (0, 8, fun b9 => .int (nI (w5 b9)))) := (hag9 _ (by omega)).trans h5
    have h6 : F3 (m + 6) = some (.inr (0, 112, fun b9 => .int (nI (b6 b9)))) := (hag9 _ (by omega)).trans h6
    have h7 : F3 (m + 7) = some (.inr (0, 16, fun b9 => .int (nI (d7 b9)))) := (hag9 _ (by omega)).trans h7
    have h8 : F3 (m + 8) = some (.inr (0, 17, fun b9 => .int (nI (b8 b9)))) := (hag9 _ (by omega)).trans h8
    have h9 : F3 (m + 9) = some (.inr (1, 40, fun b9 => .int (nI (ln b9)))) := (hag9 _ (by omega)).trans h9
    have hi : F3 (m + 10) = some (.inr (1, 60, fun b9 => .int (nI (ip b9)))) := (hag9 _ (by omega)).trans hi
    have hcm : F3 (m + 11) = some (.inr (0, 183, fun b9 => .int (nI (cs b9)))) := (hag9 _ (by omega)).trans hcm
    have o0 : F3 (m) = some (.inl (10, [.int (nI ((if (0 < A.2.2.2.1.1) then 0 else 1))), .ref (m + 1), .int (nI (un)), .int (nI (sv)), .int rs, .ref (m + 2), .ref (m + 3), .ref (m + 4), .ref (m + 5), .ref (m + 6), .int (nI (bm)), .ref (m + 7), .int (nI (dm)), .ref (m + 8), .ref (m + 9), .int (nI (lnn)), .ref (m + 10), .int (nI (pn)), .int (nI (he)), .int er, .int ep, .int fc, .ref (m + 11), .int (nI (cn))])) := j0
    have hag : ∀ a9 : Nat, (a9 < m ∨ m + 12 ≤ a9) → F3 a9 = F a9 := fun a9 q0 => (hag9 a9 (by omega)).trans (hag a9 q0)
    have hg_16 := hag9
    clear hag9
    refine x_ifB_eq hC d_MessageCoderModel_isIntact_19 (tgt := 33) (by decide) (fun c_19 => ?_) (fun c_19 => ?_)
    · skip
      refine x_iconst hC d_MessageCoderModel_isIntact_33 (v := nI 0) (by decide) ?_
      exact hret _ _ _ _ _ _ _ d_MessageCoderModel_isIntact_34 (by decide) (by decide) rfl (⟨congrArg (fun q => some (Value.int q)) (xb_f0 (p := 0 < A.2.2.2.1.1 ∧ sameA A) (fun h9 => c_19 h9.1)), rfl, ⟨_, _, _, _, _, _, _, _, _, _, _, _, _, _, _, _, _, o0, ga, h2, h3, h4, h5, h6, h7, h8, h9, hi, hcm, hg, hln, hip⟩, hag⟩)
    · skip
      refine x_aload_n hC d_MessageCoderModel_isIntact_22 rfl rfl ?_
      refine x_callV hC kv_MessageCoderModel_188 (c_MessageCoderModel_isSame (o0 := o0) (ga := ga) (h7 := h7) (hr := hr) (hA := hA) (hfk := c_19)) o0 rfl rfl (by decide) rfl rfl rfl (Nat.le_of_ble_eq_true rfl) (by decide) d_MessageCoderModel_isIntact_23 (fun r9 F9 z9 hp9 => ?_)
      obtain ⟨d1_23, rfl, h9c, j0, j1, j2, pk_23, hag9⟩ := hp9
      rw [h9c]
      clear h9c z9
      generalize F9 = F4 at *
      have h2 : F4 (m + 2) = some (.inr (0, 8, fun b9 => .int (nI (l2 b9)))) := (hag9 _ (by omega) (by omega)).trans h2
      have h3 : F4 (m + 3) = some (.inr (0, 8, fun b9 => .int (nI (v3 b9)))) := (hag9 _ (by omega) (by omega)).trans h3
      have h4 : F4 (m + 4) = some (.inr (0, 8, fun b9 => .int (nI (r4 b9)))) := (hag9 _ (by omega) (by omega)).trans h4
      have h5 : F4 (m + 5) = some (.inr (0, 8, fun b9 => .int (nI (w5 b9)))) := (hag9 _ (by omega) (by omega)).trans h5
      have h6 : F4 (m + 6) = some (.inr (0, 112, fun b9 => .int (nI (b6 b9)))) := (hag9 _ (by omega) (by omega)).trans h6
      have h8 : F4 (m + 8) = some (.inr (0, 17, fun b9 => .int (nI (b8 b9)))) := (hag9 _ (by omega) (by omega)).trans h8
      have h9 : F4 (m + 9) = some (.inr (1, 40, fun b9 => .int (nI (ln b9)))) := (hag9 _ (by omega) (by omega)).trans h9
      have hi : F4 (m + 10) = some (.inr (1, 60, fun b9 => .int (nI (ip b9)))) := (hag9 _ (by omega) (by omega)).trans hi
      have hcm : F4 (m + 11) = some (.inr (0, 183, fun b9 => .int (nI (cs b9)))) := (hag9 _ (by omega) (by omega)).trans hcm
      have o0 : F4 (m) = some (.inl (10, [.int (nI ((if (0 < A.2.2.2.1.1) then 0 else 1))), .ref (m + 1), .int (nI (un)), .int (nI (sv)), .int rs, .ref (m + 2), .ref (m + 3), .ref (m + 4), .ref (m + 5), .ref (m + 6), .int (nI (bm)), .ref (m + 7), .int (nI ((decA A).2.2.1)), .ref (m + 8), .ref (m + 9), .int (nI (lnn)), .ref (m + 10), .int (nI (pn)), .int (nI (he)), .int er, .int ep, .int fc, .ref (m + 11), .int (nI (cn))])) := j0
      have ga : F4 (m + 1) = some (.inr (0, 4730, fun b9 => .int (nI (g b9)))) := j1
      have h7 : F4 (m + 7) = some (.inr (0, 16, fun b9 => .int (nI (d1_23 b9)))) := j2
      have hag : ∀ a9 : Nat, (a9 < m ∨ m + 12 ≤ a9) → F4 a9 = F a9 := fun a9 q0 => (hag9 a9 (by omega) (by omega)).trans (hag a9 q0)
      have hg_23 := hag9
      clear hag9
      refine x_ifB_eq hC d_MessageCoderModel_isIntact_26 (tgt := 33) (by decide) (fun c_26 => ?_) (fun c_26 => ?_)
      · skip
        refine x_iconst hC d_MessageCoderModel_isIntact_33 (v := nI 0) (by decide) ?_
        exact hret _ _ _ _ _ _ _ d_MessageCoderModel_isIntact_34 (by decide) (by decide) rfl (⟨congrArg (fun q => some (Value.int q)) (xb_f0 (p := 0 < A.2.2.2.1.1 ∧ sameA A) (fun h9 => c_26 h9.2)), rfl, ⟨_, _, _, _, _, _, _, _, _, _, _, _, _, _, _, _, _, o0, ga, h2, h3, h4, h5, h6, h7, h8, h9, hi, hcm, hg, hln, hip⟩, hag⟩)
      · skip
        refine x_iconst hC d_MessageCoderModel_isIntact_29 (v := nI 1) (by decide) ?_
        refine x_goto hC d_MessageCoderModel_isIntact_30 (tgt := 34) (by decide) ?_
        exact hret _ _ _ _ _ _ _ d_MessageCoderModel_isIntact_34 (by decide) (by decide) rfl (⟨congrArg (fun q => some (Value.int q)) (xb_t1 (p := 0 < A.2.2.2.1.1 ∧ sameA A) ⟨c_19, c_26⟩), rfl, ⟨_, _, _, _, _, _, _, _, _, _, _, _, _, _, _, _, _, o0, ga, h2, h3, h4, h5, h6, h7, h8, h9, hi, hcm, hg, hln, hip⟩, hag⟩)

theorem d_MessageCoderModel_receivedAt_0 : decode prog_14_method_93_code 0 = .ok (.aload_n 0, 1) := by decide +kernel
theorem d_MessageCoderModel_receivedAt_1 : decode prog_14_method_93_code 1 = .ok (.iload_n 1, 1) := by decide +kernel
theorem d_MessageCoderModel_receivedAt_2 : decode prog_14_method_93_code 2 = .ok (.iconst 0, 1) := by decide +kernel
theorem d_MessageCoderModel_receivedAt_3 : decode prog_14_method_93_code 3 = .ok (.aload_n 0, 1) := by decide +kernel
theorem d_MessageCoderModel_receivedAt_4 : decode prog_14_method_93_code 4 = .ok (.getfield 9, 3) := by decide +kernel
theorem d_MessageCoderModel_receivedAt_7 : decode prog_14_method_93_code 7 = .ok (.bipush 9, 2) := by decide +kernel
theorem d_MessageCoderModel_receivedAt_9 : decode prog_14_method_93_code 9 = .ok (.iaload, 1) := by decide +kernel
theorem d_MessageCoderModel_receivedAt_10 : decode prog_14_method_93_code 10 = .ok (.iconst 1, 1) := by decide +kernel
theorem d_MessageCoderModel_receivedAt_11 : decode prog_14_method_93_code 11 = .ok (.isub, 1) := by decide +kernel
theorem d_MessageCoderModel_receivedAt_12 : decode prog_14_method_93_code 12 = .ok (.invokestatic 64, 3) := by decide +kernel
theorem d_MessageCoderModel_receivedAt_15 : decode prog_14_method_93_code 15 = .ok (.invokevirtual 195, 3) := by decide +kernel
theorem d_MessageCoderModel_receivedAt_18 : decode prog_14_method_93_code 18 = .ok (.ifCond .eq 20, 3) := by decide +kernel
theorem d_MessageCoderModel_receivedAt_21 : decode prog_14_method_93_code 21 = .ok (.bipush 97, 2) := by decide +kernel
theorem d_MessageCoderModel_receivedAt_23 : decode prog_14_method_93_code 23 = .ok (.aload_n 0, 1) := by decide +kernel
theorem d_MessageCoderModel_receivedAt_24 : decode prog_14_method_93_code 24 = .ok (.getfield 9, 3) := by decide +kernel
theorem d_MessageCoderModel_receivedAt_27 : decode prog_14_method_93_code 27 = .ok (.sipush 218, 3) := by decide +kernel
theorem d_MessageCoderModel_receivedAt_30 : decode prog_14_method_93_code 30 = .ok (.iload_n 1, 1) := by decide +kernel
theorem d_MessageCoderModel_receivedAt_31 : decode prog_14_method_93_code 31 = .ok (.iadd, 1) := by decide +kernel
theorem d_MessageCoderModel_receivedAt_32 : decode prog_14_method_93_code 32 = .ok (.iaload, 1) := by decide +kernel
theorem d_MessageCoderModel_receivedAt_33 : decode prog_14_method_93_code 33 = .ok (.iadd, 1) := by decide +kernel
theorem d_MessageCoderModel_receivedAt_34 : decode prog_14_method_93_code 34 = .ok (.i2c, 1) := by decide +kernel
theorem d_MessageCoderModel_receivedAt_35 : decode prog_14_method_93_code 35 = .ok (.goto 4, 3) := by decide +kernel
theorem d_MessageCoderModel_receivedAt_38 : decode prog_14_method_93_code 38 = .ok (.iconst 0, 1) := by decide +kernel
theorem d_MessageCoderModel_receivedAt_39 : decode prog_14_method_93_code 39 = .ok (.ireturn, 1) := by decide +kernel
set_option maxHeartbeats 4000000 in
set_option maxRecDepth 20000 in
theorem c_MessageCoderModel_receivedAt {P : xP} {F : xF} {z : Nat} {m : Nat} {th0 : Nat} {M : mcS} {i : Int32} (hD : xMD F (m) (th0) (M)) (hI : mInv M) : xM P xy_MessageCoderModel_receivedAt [.ref m, .int i] F (z) 0 0 (fun r9 F9 z9 => r9 = some (.int (nI (if 0 ≤ i ∧ i < nI M.1.2.2.2.2.1.1 then M.1.2.2.2.2.1.2 i.toNatClampNeg else 0))) ∧ z9 = z ∧ xMD F9 (m) ((if 0 ≤ i ∧ i < nI M.1.2.2.2.2.1.1 then 0 else 1)) (M) ∧ (∀ a9 : Nat, (a9 < m ∨ m + 12 ≤ a9) → F9 a9 = F a9)) := by
  refine xM_i .char rfl (Nat.le_of_ble_eq_true rfl) (L0 := [some (.ref m), some (.int i)]) rfl rfl fun Θ hC hret => ?_
  have hag : ∀ a9 : Nat, (a9 < m ∨ m + 12 ≤ a9) → F a9 = F a9 := fun a9 _ => rfl
  obtain ⟨A, S, past, ⟨pn, psg⟩, ⟨lnn, lsg⟩, sv, pp, un, ep, fc⟩ := M
  obtain ⟨rs, er, bm, dm, he, cn, g, l2, v3, r4, w5, b6, d7, b8, ln, ip, cs, o0, ga, h2, h3, h4, h5, h6, h7, h8, h9, hi, hcm, hg, hln, hip⟩ := id hD
  obtain ⟨iA, iP, iS, hu8, hup, hs1, hty, hlz, hic, hlc⟩ := id hI
  have o0 : F (m) = some (.inl (10, [.int (nI (th0)), .ref (m + 1), .int (nI (un)), .int (nI (sv)), .int rs, .ref (m + 2), .ref (m + 3), .ref (m + 4), .ref (m + 5), .ref (m + 6), .int (nI (bm)), .ref (m + 7), .int (nI (dm)), .ref (m + 8), .ref (m + 9), .int (nI (lnn)), .ref (m + 10), .int (nI (pn)), .int (nI (he)), .int er, .int ep, .int fc, .ref (m + 11), .int (nI (cn))])) := o0
  have ga : F (m + 1) = some (.inr (0, 4730, fun b9 => .int (nI (g b9)))) := ga
  have h2 : F (m + 2) = some (.inr (0, 8, fun b9 => .int (nI (l2 b9)))) := h2
  have h3 : F (m + 3) = some (.inr (0, 8, fun b9 => .int (nI (v3 b9)))) := h3
  have h4 : F (m + 4) = some (.inr (0, 8, fun b9 => .int (nI (r4 b9)))) := h4
  have h5 : F (m + 5) = some (.inr (0, 8, fun b9 => .int (nI (w5 b9)))) := h5
  have h6 : F (m + 6) = some (.inr (0, 112, fun b9 => .int (nI (b6 b9)))) := h6
  have h7 : F (m + 7) = some (.inr (0, 16, fun b9 => .int (nI (d7 b9)))) := h7
  have h8 : F (m + 8) = some (.inr (0, 17, fun b9 => .int (nI (b8 b9)))) := h8
  have h9 : F (m + 9) = some (.inr (1, 40, fun b9 => .int (nI (ln b9)))) := h9
  have hi : F (m + 10) = some (.inr (1, 60, fun b9 => .int (nI (ip b9)))) := hi
  have hcm : F (m + 11) = some (.inr (0, 183, fun b9 => .int (nI (cs b9)))) := hcm
  have hln : ∀ j, j < lnn → ln j = lsg j := hln
  have hip : ∀ j, j < pn → ip j = psg j := hip
  have iA : aInv A := iA
  have hu8 : un ≤ 8 := hu8
  have hup : un ≤ pp := hup
  have hs1 : sv ≤ 1 := hs1
  have hty : pn ≤ 60 := hty
  have hlz : lnn ≤ 32 := hlz
  have hr : rRow g A := hg.1
  have hA : aInv A := iA
  obtain ⟨⟨q0, q1, q2, q3, q4, q5, q6, q7, q9⟩, qw, qd, qm, qf, qx, qb⟩ := id hr
  obtain ⟨⟨u1, u2, u3, u4, u5⟩, uw, ud, um, uo, ut, ux, ub, un9⟩ := id hA
  refine x_aload_n hC d_MessageCoderModel_receivedAt_0 rfl rfl ?_
  refine x_iload_n hC d_MessageCoderModel_receivedAt_1 rfl rfl ?_
  refine x_iconst hC d_MessageCoderModel_receivedAt_2 (v := nI 0) (by decide) ?_
  refine x_aload_n hC d_MessageCoderModel_receivedAt_3 rfl rfl ?_
  refine x_getf hC kf_MessageCoderModel_9 o0 rfl d_MessageCoderModel_receivedAt_4 ?_
  refine x_bipush hC d_MessageCoderModel_receivedAt_7 (v := nI 9) (by decide) ?_
  refine x_iald hC ga (j := 9) ⟨rfl, by omega, by omega⟩ (x := nI (A.2.2.2.2.1.1)) (congrArg nI q9) d_MessageCoderModel_receivedAt_9 ?_
  refine x_iconst hC d_MessageCoderModel_receivedAt_10 (v := nI 1) (by decide) ?_
  refine x_isub hC d_MessageCoderModel_receivedAt_11 (v := (nI A.2.2.2.2.1.1 - nI 1)) rfl ?_
  refine x_callS hC ks_MessageCoderModel_64 (c_MessageCoderModel_in ) (by decide) rfl rfl rfl (Nat.le_of_ble_eq_true rfl) (by decide) d_MessageCoderModel_receivedAt_12 (fun r9 F9 z9 hp9 => ?_)
  obtain ⟨rfl, h9b, h9c⟩ := hp9
  rw [h9b, h9c]
  clear h9b h9c F9 z9
  refine x_top (v := (xb (0 ≤ i ∧ i < nI A.2.2.2.2.1.1))) (xb_c (fl_iff (by omega))) ?_
  refine x_callV hC kv_MessageCoderModel_195 (c_MessageCoderModel_isFine (o0 := o0)) o0 rfl rfl (by decide) rfl rfl rfl (Nat.le_of_ble_eq_true rfl) (by decide) d_MessageCoderModel_receivedAt_15 (fun r9 F9 z9 hp9 => ?_)
  obtain ⟨rfl, h9c, j0, hag9⟩ := hp9
  rw [h9c]
  clear h9c z9
  generalize F9 = F1 at *
  have ga : F1 (m + 1) = some (.inr (0, 4730, fun b9 => .int (nI (g b9)))) := (hag9 _ (by omega)).trans ga
  have h2 : F1 (m + 2) = some (.inr (0, 8, fun b9 => .int (nI (l2 b9)))) := (hag9 _ (by omega)).trans h2
  have h3 : F1 (m + 3) = some (.inr (0, 8, fun b9 => .int (nI (v3 b9)))) := (hag9 _ (by omega)).trans h3
  have h4 : F1 (m + 4) = some (.inr (0, 8, fun b9 => .int (nI (r4 b9)))) := (hag9 _ (by omega)).trans h4
  have h5 : F1 (m + 5) = some (.inr (0, 8, fun b9 => .int (nI (w5 b9)))) := (hag9 _ (by omega)).trans h5
  have h6 : F1 (m + 6) = some (.inr (0, 112, fun b9 => .int (nI (b6 b9)))) := (hag9 _ (by omega)).trans h6
  have h7 : F1 (m + 7) = some (.inr (0, 16, fun b9 => .int (nI (d7 b9)))) := (hag9 _ (by omega)).trans h7
  have h8 : F1 (m + 8) = some (.inr (0, 17, fun b9 => .int (nI (b8 b9)))) := (hag9 _ (by omega)).trans h8
  have h9 : F1 (m + 9) = some (.inr (1, 40, fun b9 => .int (nI (ln b9)))) := (hag9 _ (by omega)).trans h9
  have hi : F1 (m + 10) = some (.inr (1, 60, fun b9 => .int (nI (ip b9)))) := (hag9 _ (by omega)).trans hi
  have hcm : F1 (m + 11) = some (.inr (0, 183, fun b9 => .int (nI (cs b9)))) := (hag9 _ (by omega)).trans hcm
  have o0 : F1 (m) = some (.inl (10, [.int (nI ((if (0 ≤ i ∧ i < nI A.2.2.2.2.1.1) then 0 else 1))), .ref (m + 1), .int (nI (un)), .int (nI (sv)), .int rs, .ref (m + 2), .ref (m + 3), .ref (m + 4), .ref (m + 5), .ref (m + 6), .int (nI (bm)), .ref (m + 7), .int (nI (dm)), .ref (m + 8), .ref (m + 9), .int (nI (lnn)), .ref (m + 10), .int (nI (pn)), .int (nI (he)), .int er, .int ep, .int fc, .ref (m + 11), .int (nI (cn))])) := j0
  have hag : ∀ a9 : Nat, (a9 < m ∨ m + 12 ≤ a9) → F1 a9 = F a9 := fun a9 q0 => (hag9 a9 (by omega)).trans (hag a9 q0)
  have hg_15 := hag9
  clear hag9
  refine x_ifB_eq hC d_MessageCoderModel_receivedAt_18 (tgt := 38) (by decide) (fun c_18 => ?_) (fun c_18 => ?_)
  · skip
    refine x_iconst hC d_MessageCoderModel_receivedAt_38 (v := nI 0) (by decide) ?_
    exact hret _ _ _ _ _ _ _ d_MessageCoderModel_receivedAt_39 (by decide) (by decide) (x_char _ (by omega)) (⟨congrArg (fun q => some (Value.int (nI q))) ((if_neg c_18).symm), rfl, ⟨_, _, _, _, _, _, _, _, _, _, _, _, _, _, _, _, _, o0, ga, h2, h3, h4, h5, h6, h7, h8, h9, hi, hcm, hg, hln, hip⟩, hag⟩)
  · skip
    have hie := i2n_of c_18.1
    have hi9 : i.toNatClampNeg < A.2.2.2.2.1.1 := i2n_lt c_18.1 c_18.2 (by omega)
    obtain ⟨hs7, hs8⟩ := ux _ hi9
    have hq9 := qx _ hi9
    refine x_bipush hC d_MessageCoderModel_receivedAt_21 (v := nI 97) (by decide) ?_
    refine x_aload_n hC d_MessageCoderModel_receivedAt_23 rfl rfl ?_
    refine x_getf hC kf_MessageCoderModel_9 o0 rfl d_MessageCoderModel_receivedAt_24 ?_
    refine x_sipush hC d_MessageCoderModel_receivedAt_27 (v := nI 218) (by decide) ?_
    refine x_iload_n hC d_MessageCoderModel_receivedAt_30 rfl rfl ?_
    refine x_top (v := (nI (i.toNatClampNeg))) hie ?_
    refine x_iadd hC d_MessageCoderModel_receivedAt_31 (v := (nI ((218) + (i.toNatClampNeg)))) (x_addN (by omega)) ?_
    refine x_iald hC ga (j := (218) + (i.toNatClampNeg)) ⟨rfl, by omega, by omega⟩ (x := nI (g ((218) + (i.toNatClampNeg)))) rfl d_MessageCoderModel_receivedAt_32 ?_
    refine x_iadd hC d_MessageCoderModel_receivedAt_33 (v := (nI (A.2.2.2.2.1.2 i.toNatClampNeg))) (by rw [nI_add]; exact congrArg nI (by omega)) ?_
    refine x_i2c hC d_MessageCoderModel_receivedAt_34 (v := (nI (A.2.2.2.2.1.2 i.toNatClampNeg))) (x_i2cN (by omega)) ?_
    refine x_goto hC d_MessageCoderModel_receivedAt_35 (tgt := 39) (by decide) ?_
    exact hret _ _ _ _ _ _ _ d_MessageCoderModel_receivedAt_39 (by decide) (by decide) (x_char _ (by omega)) (⟨congrArg (fun q => some (Value.int (nI q))) ((if_pos c_18).symm), rfl, ⟨_, _, _, _, _, _, _, _, _, _, _, _, _, _, _, _, _, o0, ga, h2, h3, h4, h5, h6, h7, h8, h9, hi, hcm, hg, hln, hip⟩, hag⟩)

theorem d_MessageCoderModel_failedShare_0 : decode prog_14_method_98_code 0 = .ok (.aload_n 0, 1) := by decide +kernel
theorem d_MessageCoderModel_failedShare_1 : decode prog_14_method_98_code 1 = .ok (.aload_n 0, 1) := by decide +kernel
theorem d_MessageCoderModel_failedShare_2 : decode prog_14_method_98_code 2 = .ok (.getfield 9, 3) := by decide +kernel
theorem d_MessageCoderModel_failedShare_5 : decode prog_14_method_98_code 5 = .ok (.iconst 4, 1) := by decide +kernel
theorem d_MessageCoderModel_failedShare_6 : decode prog_14_method_98_code 6 = .ok (.iaload, 1) := by decide +kernel
theorem d_MessageCoderModel_failedShare_7 : decode prog_14_method_98_code 7 = .ok (.ifCond .le 7, 3) := by decide +kernel
theorem d_MessageCoderModel_failedShare_10 : decode prog_14_method_98_code 10 = .ok (.iconst 1, 1) := by decide +kernel
theorem d_MessageCoderModel_failedShare_11 : decode prog_14_method_98_code 11 = .ok (.goto 4, 3) := by decide +kernel
theorem d_MessageCoderModel_failedShare_14 : decode prog_14_method_98_code 14 = .ok (.iconst 0, 1) := by decide +kernel
theorem d_MessageCoderModel_failedShare_15 : decode prog_14_method_98_code 15 = .ok (.invokevirtual 195, 3) := by decide +kernel
theorem d_MessageCoderModel_failedShare_18 : decode prog_14_method_98_code 18 = .ok (.ifCond .eq 22, 3) := by decide +kernel
theorem d_MessageCoderModel_failedShare_21 : decode prog_14_method_98_code 21 = .ok (.aload_n 0, 1) := by decide +kernel
theorem d_MessageCoderModel_failedShare_22 : decode prog_14_method_98_code 22 = .ok (.getfield 9, 3) := by decide +kernel
theorem d_MessageCoderModel_failedShare_25 : decode prog_14_method_98_code 25 = .ok (.bipush 6, 2) := by decide +kernel
theorem d_MessageCoderModel_failedShare_27 : decode prog_14_method_98_code 27 = .ok (.iaload, 1) := by decide +kernel
theorem d_MessageCoderModel_failedShare_28 : decode prog_14_method_98_code 28 = .ok (.i2f, 1) := by decide +kernel
theorem d_MessageCoderModel_failedShare_29 : decode prog_14_method_98_code 29 = .ok (.aload_n 0, 1) := by decide +kernel
theorem d_MessageCoderModel_failedShare_30 : decode prog_14_method_98_code 30 = .ok (.getfield 9, 3) := by decide +kernel
theorem d_MessageCoderModel_failedShare_33 : decode prog_14_method_98_code 33 = .ok (.iconst 4, 1) := by decide +kernel
theorem d_MessageCoderModel_failedShare_34 : decode prog_14_method_98_code 34 = .ok (.iaload, 1) := by decide +kernel
theorem d_MessageCoderModel_failedShare_35 : decode prog_14_method_98_code 35 = .ok (.i2f, 1) := by decide +kernel
theorem d_MessageCoderModel_failedShare_36 : decode prog_14_method_98_code 36 = .ok (.fdiv, 1) := by decide +kernel
theorem d_MessageCoderModel_failedShare_37 : decode prog_14_method_98_code 37 = .ok (.goto 4, 3) := by decide +kernel
theorem d_MessageCoderModel_failedShare_40 : decode prog_14_method_98_code 40 = .ok (.fconst 0, 1) := by decide +kernel
theorem d_MessageCoderModel_failedShare_41 : decode prog_14_method_98_code 41 = .ok (.freturn, 1) := by decide +kernel
set_option maxHeartbeats 4000000 in
set_option maxRecDepth 20000 in
theorem c_MessageCoderModel_failedShare {P : xP} {F : xF} {z : Nat} {m : Nat} {th0 : Nat} {M : mcS} (hD : xMD F (m) (th0) (M)) (hI : mInv M) (hg0 : M.1.2.2.2.2.2.2.1 < 1000) (hf0 : M.1.2.2.2.2.2.2.2.2 < 1000) : xM P xy_MessageCoderModel_failedShare [.ref m] F (z) 0 0 (fun r9 F9 z9 => r9 = some (.float (if 0 < M.1.2.2.2.2.2.2.1 then FP.fdiv (FP.i2f (nI (M.1.2.2.2.2.2.2.2.2))) (FP.i2f (nI (M.1.2.2.2.2.2.2.1))) else FP.fconst0)) ∧ z9 = z ∧ xMD F9 (m) ((if 0 < M.1.2.2.2.2.2.2.1 then 0 else 1)) (M) ∧ (∀ a9 : Nat, (a9 < m ∨ m + 12 ≤ a9) → F9 a9 = F a9)) := by
  refine xM_f rfl (Nat.le_of_ble_eq_true rfl) (L0 := [some (.ref m)]) rfl rfl fun Θ hC hret => ?_
  have hag : ∀ a9 : Nat, (a9 < m ∨ m + 12 ≤ a9) → F a9 = F a9 := fun a9 _ => rfl
  obtain ⟨A, S, past, ⟨pn, psg⟩, ⟨lnn, lsg⟩, sv, pp, un, ep, fc⟩ := M
  obtain ⟨rs, er, bm, dm, he, cn, g, l2, v3, r4, w5, b6, d7, b8, ln, ip, cs, o0, ga, h2, h3, h4, h5, h6, h7, h8, h9, hi, hcm, hg, hln, hip⟩ := id hD
  obtain ⟨iA, iP, iS, hu8, hup, hs1, hty, hlz, hic, hlc⟩ := id hI
  have o0 : F (m) = some (.inl (10, [.int (nI (th0)), .ref (m + 1), .int (nI (un)), .int (nI (sv)), .int rs, .ref (m + 2), .ref (m + 3), .ref (m + 4), .ref (m + 5), .ref (m + 6), .int (nI (bm)), .ref (m + 7), .int (nI (dm)), .ref (m + 8), .ref (m + 9), .int (nI (lnn)), .ref (m + 10), .int (nI (pn)), .int (nI (he)), .int er, .int ep, .int fc, .ref (m + 11), .int (nI (cn))])) := o0
  have ga : F (m + 1) = some (.inr (0, 4730, fun b9 => .int (nI (g b9)))) := ga
  have h2 : F (m + 2) = some (.inr (0, 8, fun b9 => .int (nI (l2 b9)))) := h2
  have h3 : F (m + 3) = some (.inr (0, 8, fun b9 => .int (nI (v3 b9)))) := h3
  have h4 : F (m + 4) = some (.inr (0, 8, fun b9 => .int (nI (r4 b9)))) := h4
  have h5 : F (m + 5) = some (.inr (0, 8, fun b9 => .int (nI (w5 b9)))) := h5
  have h6 : F (m + 6) = some (.inr (0, 112, fun b9 => .int (nI (b6 b9)))) := h6
  have h7 : F (m + 7) = some (.inr (0, 16, fun b9 => .int (nI (d7 b9)))) := h7
  have h8 : F (m + 8) = some (.inr (0, 17, fun b9 => .int (nI (b8 b9)))) := h8
  have h9 : F (m + 9) = some (.inr (1, 40, fun b9 => .int (nI (ln b9)))) := h9
  have hi : F (m + 10) = some (.inr (1, 60, fun b9 => .int (nI (ip b9)))) := hi
  have hcm : F (m + 11) = some (.inr (0, 183, fun b9 => .int (nI (cs b9)))) := hcm
  have hln : ∀ j, j < lnn → ln j = lsg j := hln
  have hip : ∀ j, j < pn → ip j = psg j := hip
  have iA : aInv A := iA
  have hu8 : un ≤ 8 := hu8
  have hup : un ≤ pp := hup
  have hs1 : sv ≤ 1 := hs1
  have hty : pn ≤ 60 := hty
  have hlz : lnn ≤ 32 := hlz
  have hr : rRow g A := hg.1
  have hA : aInv A := iA
  obtain ⟨⟨q0, q1, q2, q3, q4, q5, q6, q7, q9⟩, qw, qd, qm, qf, qx, qb⟩ := id hr
  obtain ⟨⟨u1, u2, u3, u4, u5⟩, uw, ud, um, uo, ut, ux, ub, un9⟩ := id hA
  have hg9 : A.2.2.2.2.2.2.1 < 1000 := hg0
  have hf9 : A.2.2.2.2.2.2.2.2 < 1000 := hf0
  refine x_aload_n hC d_MessageCoderModel_failedShare_0 rfl rfl ?_
  refine x_aload_n hC d_MessageCoderModel_failedShare_1 rfl rfl ?_
  refine x_getf hC kf_MessageCoderModel_9 o0 rfl d_MessageCoderModel_failedShare_2 ?_
  refine x_iconst hC d_MessageCoderModel_failedShare_5 (v := nI 4) (by decide) ?_
  refine x_iald hC ga (j := 4) ⟨rfl, by omega, by omega⟩ (x := nI (A.2.2.2.2.2.2.1)) (congrArg nI q4) d_MessageCoderModel_failedShare_6 ?_
  refine x_ifN_le hC d_MessageCoderModel_failedShare_7 (tgt := 14) (by decide) (by omega) (fun c_7 => ?_) (fun c_7 => ?_)
  · skip
    refine x_iconst hC d_MessageCoderModel_failedShare_14 (v := nI 0) (by decide) ?_
    refine x_top (v := (xb (0 < A.2.2.2.2.2.2.1))) (xb_f0 (by omega)) ?_
    refine x_callV hC kv_MessageCoderModel_195 (c_MessageCoderModel_isFine (o0 := o0)) o0 rfl rfl (by decide) rfl rfl rfl (Nat.le_of_ble_eq_true rfl) (by decide) d_MessageCoderModel_failedShare_15 (fun r9 F9 z9 hp9 => ?_)
    obtain ⟨rfl, h9c, j0, hag9⟩ := hp9
    rw [h9c]
    clear h9c z9
    generalize F9 = F1 at *
    have ga : F1 (m + 1) = some (.inr (0, 4730, fun b9 => .int (nI (g b9)))) := (hag9 _ (by omega)).trans ga
    have h2 : F1 (m + 2) = some (.inr (0, 8, fun b9 => .int (nI (l2 b9)))) := (hag9 _ (by omega)).trans h2
    have h3 : F1 (m + 3) = some (.inr (0, 8, fun b9 => .int (nI (v3 b9)))) := (hag9 _ (by omega)).trans h3
    have h4 : F1 (m + 4) = some (.inr (0, 8, fun b9 => .int (nI (r4 b9)))) := (hag9 _ (by omega)).trans h4
    have h5 : F1 (m + 5) = some (.inr (0, 8, fun b9 => .int (nI (w5 b9)))) := (hag9 _ (by omega)).trans h5
    have h6 : F1 (m + 6) = some (.inr (0, 112, fun b9 => .int (nI (b6 b9)))) := (hag9 _ (by omega)).trans h6
    have h7 : F1 (m + 7) = some (.inr (0, 16, fun b9 => .int (nI (d7 b9)))) := (hag9 _ (by omega)).trans h7
    have h8 : F1 (m + 8) = some (.inr (0, 17, fun b9 => .int (nI (b8 b9)))) := (hag9 _ (by omega)).trans h8
    have h9 : F1 (m + 9) = some (.inr (1, 40, fun b9 => .int (nI (ln b9)))) := (hag9 _ (by omega)).trans h9
    have hi : F1 (m + 10) = some (.inr (1, 60, fun b9 => .int (nI (ip b9)))) := (hag9 _ (by omega)).trans hi
    have hcm : F1 (m + 11) = some (.inr (0, 183, fun b9 => .int (nI (cs b9)))) := (hag9 _ (by omega)).trans hcm
    have o0 : F1 (m) = some (.inl (10, [.int (nI ((if (0 < A.2.2.2.2.2.2.1) then 0 else 1))), .ref (m + 1), .int (nI (un)), .int (nI (sv)), .int rs, .ref (m + 2), .ref (m + 3), .ref (m + 4), .ref (m + 5), .ref (m + 6), .int (nI (bm)), .ref (m + 7), .int (nI (dm)), .ref (m + 8), .ref (m + 9), .int (nI (lnn)), .ref (m + 10), .int (nI (pn)), .int (nI (he)), .int er, .int ep, .int fc, .ref (m + 11), .int (nI (cn))])) := j0
    have hag : ∀ a9 : Nat, (a9 < m ∨ m + 12 ≤ a9) → F1 a9 = F a9 := fun a9 q0 => (hag9 a9 (by omega)).trans (hag a9 q0)
    have hg_15 := hag9
    clear hag9
    refine x_ifB_eq hC d_MessageCoderModel_failedShare_18 (tgt := 40) (by decide) (fun c_18 => ?_) (fun c_18 => ?_)
    · skip
      refine x_fconst0 hC d_MessageCoderModel_failedShare_40 ?_
      exact hret _ _ _ _ _ _ _ d_MessageCoderModel_failedShare_41 (by decide) (by decide) (⟨congrArg (fun q => some (Value.float q)) (if_neg c_18).symm, rfl, ⟨_, _, _, _, _, _, _, _, _, _, _, _, _, _, _, _, _, o0, ga, h2, h3, h4, h5, h6, h7, h8, h9, hi, hcm, hg, hln, hip⟩, hag⟩)
    · skip
      refine x_aload_n hC d_MessageCoderModel_failedShare_21 rfl rfl ?_
      refine x_getf hC kf_MessageCoderModel_9 o0 rfl d_MessageCoderModel_failedShare_22 ?_
      refine x_bipush hC d_MessageCoderModel_failedShare_25 (v := nI 6) (by decide) ?_
      refine x_iald hC ga (j := 6) ⟨rfl, by omega, by omega⟩ (x := nI (A.2.2.2.2.2.2.2.2)) (congrArg nI q6) d_MessageCoderModel_failedShare_27 ?_
      refine x_i2f hC d_MessageCoderModel_failedShare_28 ?_
      refine x_aload_n hC d_MessageCoderModel_failedShare_29 rfl rfl ?_
      refine x_getf hC kf_MessageCoderModel_9 o0 rfl d_MessageCoderModel_failedShare_30 ?_
      refine x_iconst hC d_MessageCoderModel_failedShare_33 (v := nI 4) (by decide) ?_
      refine x_iald hC ga (j := 4) ⟨rfl, by omega, by omega⟩ (x := nI (A.2.2.2.2.2.2.1)) (congrArg nI q4) d_MessageCoderModel_failedShare_34 ?_
      refine x_i2f hC d_MessageCoderModel_failedShare_35 ?_
      refine x_fdiv hC d_MessageCoderModel_failedShare_36 (fl_n32 (fl_fdiv hf9 hg9 c_18)) ?_
      refine x_goto hC d_MessageCoderModel_failedShare_37 (tgt := 41) (by decide) ?_
      exact hret _ _ _ _ _ _ _ d_MessageCoderModel_failedShare_41 (by decide) (by decide) (⟨congrArg (fun q => some (Value.float q)) (if_pos c_18).symm, rfl, ⟨_, _, _, _, _, _, _, _, _, _, _, _, _, _, _, _, _, o0, ga, h2, h3, h4, h5, h6, h7, h8, h9, hi, hcm, hg, hln, hip⟩, hag⟩)
  · skip
    refine x_iconst hC d_MessageCoderModel_failedShare_10 (v := nI 1) (by decide) ?_
    refine x_goto hC d_MessageCoderModel_failedShare_11 (tgt := 15) (by decide) ?_
    refine x_top (v := (xb (0 < A.2.2.2.2.2.2.1))) (xb_t1 (by omega)) ?_
    refine x_callV hC kv_MessageCoderModel_195 (c_MessageCoderModel_isFine (o0 := o0)) o0 rfl rfl (by decide) rfl rfl rfl (Nat.le_of_ble_eq_true rfl) (by decide) d_MessageCoderModel_failedShare_15 (fun r9 F9 z9 hp9 => ?_)
    obtain ⟨rfl, h9c, j0, hag9⟩ := hp9
    rw [h9c]
    clear h9c z9
    generalize F9 = F2 at *
    have ga : F2 (m + 1) = some (.inr (0, 4730, fun b9 => .int (nI (g b9)))) := (hag9 _ (by omega)).trans ga
    have h2 : F2 (m + 2) = some (.inr (0, 8, fun b9 => .int (nI (l2 b9)))) := (hag9 _ (by omega)).trans h2
    have h3 : F2 (m + 3) = some (.inr (0, 8, fun b9 => .int (nI (v3 b9)))) := (hag9 _ (by omega)).trans h3
    have h4 : F2 (m + 4) = some (.inr (0, 8, fun b9 => .int (nI (r4 b9)))) := (hag9 _ (by omega)).trans h4
    have h5 : F2 (m + 5) = some (.inr (0, 8, fun b9 => .int (nI (w5 b9)))) := (hag9 _ (by omega)).trans h5
    have h6 : F2 (m + 6) = some (.inr (0, 112, fun b9 => .int (nI (b6 b9)))) := (hag9 _ (by omega)).trans h6
    have h7 : F2 (m + 7) = some (.inr (0, 16, fun b9 => .int (nI (d7 b9)))) := (hag9 _ (by omega)).trans h7
    have h8 : F2 (m + 8) = some (.inr (0, 17, fun b9 => .int (nI (b8 b9)))) := (hag9 _ (by omega)).trans h8
    have h9 : F2 (m + 9) = some (.inr (1, 40, fun b9 => .int (nI (ln b9)))) := (hag9 _ (by omega)).trans h9
    have hi : F2 (m + 10) = some (.inr (1, 60, fun b9 => .int (nI (ip b9)))) := (hag9 _ (by omega)).trans hi
    have hcm : F2 (m + 11) = some (.inr (0, 183, fun b9 => .int (nI (cs b9)))) := (hag9 _ (by omega)).trans hcm
    have o0 : F2 (m) = some (.inl (10, [.int (nI ((if (0 < A.2.2.2.2.2.2.1) then 0 else 1))), .ref (m + 1), .int (nI (un)), .int (nI (sv)), .int rs, .ref (m + 2), .ref (m + 3), .ref (m + 4), .ref (m + 5), .ref (m + 6), .int (nI (bm)), .ref (m + 7), .int (nI (dm)), .ref (m + 8), .ref (m + 9), .int (nI (lnn)), .ref (m + 10), .int (nI (pn)), .int (nI (he)), .int er, .int ep, .int fc, .ref (m + 11), .int (nI (cn))])) := j0
    have hag : ∀ a9 : Nat, (a9 < m ∨ m + 12 ≤ a9) → F2 a9 = F a9 := fun a9 q0 => (hag9 a9 (by omega)).trans (hag a9 q0)
    have hg_15 := hag9
    clear hag9
    refine x_ifB_eq hC d_MessageCoderModel_failedShare_18 (tgt := 40) (by decide) (fun c_18 => ?_) (fun c_18 => ?_)
    · skip
      refine x_fconst0 hC d_MessageCoderModel_failedShare_40 ?_
      exact hret _ _ _ _ _ _ _ d_MessageCoderModel_failedShare_41 (by decide) (by decide) (⟨congrArg (fun q => some (Value.float q)) (if_neg c_18).symm, rfl, ⟨_, _, _, _, _, _, _, _, _, _, _, _, _, _, _, _, _, o0, ga, h2, h3, h4, h5, h6, h7, h8, h9, hi, hcm, hg, hln, hip⟩, hag⟩)
    · skip
      refine x_aload_n hC d_MessageCoderModel_failedShare_21 rfl rfl ?_
      refine x_getf hC kf_MessageCoderModel_9 o0 rfl d_MessageCoderModel_failedShare_22 ?_
      refine x_bipush hC d_MessageCoderModel_failedShare_25 (v := nI 6) (by decide) ?_
      refine x_iald hC ga (j := 6) ⟨rfl, by omega, by omega⟩ (x := nI (A.2.2.2.2.2.2.2.2)) (congrArg nI q6) d_MessageCoderModel_failedShare_27 ?_
      refine x_i2f hC d_MessageCoderModel_failedShare_28 ?_
      refine x_aload_n hC d_MessageCoderModel_failedShare_29 rfl rfl ?_
      refine x_getf hC kf_MessageCoderModel_9 o0 rfl d_MessageCoderModel_failedShare_30 ?_
      refine x_iconst hC d_MessageCoderModel_failedShare_33 (v := nI 4) (by decide) ?_
      refine x_iald hC ga (j := 4) ⟨rfl, by omega, by omega⟩ (x := nI (A.2.2.2.2.2.2.1)) (congrArg nI q4) d_MessageCoderModel_failedShare_34 ?_
      refine x_i2f hC d_MessageCoderModel_failedShare_35 ?_
      refine x_fdiv hC d_MessageCoderModel_failedShare_36 (fl_n32 (fl_fdiv hf9 hg9 c_18)) ?_
      refine x_goto hC d_MessageCoderModel_failedShare_37 (tgt := 41) (by decide) ?_
      exact hret _ _ _ _ _ _ _ d_MessageCoderModel_failedShare_41 (by decide) (by decide) (⟨congrArg (fun q => some (Value.float q)) (if_pos c_18).symm, rfl, ⟨_, _, _, _, _, _, _, _, _, _, _, _, _, _, _, _, _, o0, ga, h2, h3, h4, h5, h6, h7, h8, h9, hi, hcm, hg, hln, hip⟩, hag⟩)

