/-! the reference: its messages -/
def plc (i k : Nat) : Int32 := if i < k then nI i else -1
theorem plc_lt {i k : Nat} (hk : k < 2 ^ 31) : plc i k < 0 ↔ ¬ i < k := by
  unfold plc
  by_cases h : i < k
  · rw [if_pos h]
    exact ⟨fun h9 => absurd h9 (nI_pos (by omega)), fun h9 => absurd h h9⟩
  · rw [if_neg h]
    exact ⟨fun _ => h, fun _ => by decide⟩
theorem plc_of {i k : Nat} (h : i < k) : plc i k = nI i := if_pos h
theorem id_iff {A : aS} (hA : aInv A) {i p : Nat} (hi : i < A.2.2.1.1) (hp : p < A.2.2.1.1) : i < p ↔ (A.2.2.1.2.2 i).1 < (A.2.2.1.2.2 p).1 := by
  have uo := hA.2.2.2.2.1
  constructor
  · intro h
    exact uo i p h hp
  · intro h
    by_cases e : i = p
    · rw [e] at h; omega
    · by_cases h2 : p < i
      · have := uo p i h2 hi
        omega
      · omega
theorem lenF_sy {ln : Nat → Nat} {c : Nat} (h : isSy c) : lenF ln c = ln (c - 97) := if_pos h

theorem d_MessageCoderModel_m_0 : decode prog_14_method_14_code 0 = .ok (.aload_n 0, 1) := by decide +kernel
theorem d_MessageCoderModel_m_1 : decode prog_14_method_14_code 1 = .ok (.getfield 9, 3) := by decide +kernel
theorem d_MessageCoderModel_m_4 : decode prog_14_method_14_code 4 = .ok (.bipush 34, 2) := by decide +kernel
theorem d_MessageCoderModel_m_6 : decode prog_14_method_14_code 6 = .ok (.bipush 19, 2) := by decide +kernel
theorem d_MessageCoderModel_m_8 : decode prog_14_method_14_code 8 = .ok (.iload_n 1, 1) := by decide +kernel
theorem d_MessageCoderModel_m_9 : decode prog_14_method_14_code 9 = .ok (.imul, 1) := by decide +kernel
theorem d_MessageCoderModel_m_10 : decode prog_14_method_14_code 10 = .ok (.iadd, 1) := by decide +kernel
theorem d_MessageCoderModel_m_11 : decode prog_14_method_14_code 11 = .ok (.iload_n 2, 1) := by decide +kernel
theorem d_MessageCoderModel_m_12 : decode prog_14_method_14_code 12 = .ok (.iadd, 1) := by decide +kernel
theorem d_MessageCoderModel_m_13 : decode prog_14_method_14_code 13 = .ok (.iaload, 1) := by decide +kernel
theorem d_MessageCoderModel_m_14 : decode prog_14_method_14_code 14 = .ok (.ireturn, 1) := by decide +kernel
set_option maxHeartbeats 4000000 in
set_option maxRecDepth 20000 in
theorem c_MessageCoderModel_m {P : xP} {F : xF} {z : Nat} {m : Nat} {th : Nat} {ch : Nat} {sv : Nat} {rs : Int32} {bm : Nat} {dm : Nat} {lz : Nat} {ty : Nat} {he : Nat} {er : Int32} {ea : Int32} {fa : Int32} {cn : Nat} {g : Nat → Nat} {p : Nat} {u : Nat} (o0 : F (m) = some (.inl (10, [.int (nI (th)), .ref (m + 1), .int (nI (ch)), .int (nI (sv)), .int rs, .ref (m + 2), .ref (m + 3), .ref (m + 4), .ref (m + 5), .ref (m + 6), .int (nI (bm)), .ref (m + 7), .int (nI (dm)), .ref (m + 8), .ref (m + 9), .int (nI (lz)), .ref (m + 10), .int (nI (ty)), .int (nI (he)), .int er, .int ea, .int fa, .ref (m + 11), .int (nI (cn))]))) (ga : F (m + 1) = some (.inr (0, 4730, fun b9 => .int (nI (g b9))))) (hpw : 34 + 19 * p + u < 4730) : xM P xy_MessageCoderModel_m [.ref m, .int (nI (p)), .int (nI (u))] F (z) 0 0 (fun r9 F9 z9 => r9 = some (.int (nI (g (34 + 19 * p + u)))) ∧ F9 = F ∧ z9 = z) := by
  refine xM_i .int rfl (Nat.le_of_ble_eq_true rfl) (L0 := [some (.ref m), some (.int (nI (p))), some (.int (nI (u)))]) rfl rfl fun Θ hC hret => ?_
  refine x_aload_n hC d_MessageCoderModel_m_0 rfl rfl ?_
  refine x_getf hC kf_MessageCoderModel_9 o0 rfl d_MessageCoderModel_m_1 ?_
  refine x_bipush hC d_MessageCoderModel_m_4 (v := nI 34) (by decide) ?_
  refine x_bipush hC d_MessageCoderModel_m_6 (v := nI 19) (by decide) ?_
  refine x_iload_n hC d_MessageCoderModel_m_8 rfl rfl ?_
  refine x_imul hC d_MessageCoderModel_m_9 (v := (nI ((19) * (p)))) (pk_mul _ _) ?_
  refine x_iadd hC d_MessageCoderModel_m_10 (v := (nI ((34) + ((19) * (p))))) (x_addN (by omega)) ?_
  refine x_iload_n hC d_MessageCoderModel_m_11 rfl rfl ?_
  refine x_iadd hC d_MessageCoderModel_m_12 (v := (nI ((34) + ((19) * (p)) + u))) (x_addN (by omega)) ?_
  refine x_iald hC ga (j := (34) + ((19) * (p)) + u) ⟨rfl, by omega, by omega⟩ (x := nI (g ((34) + ((19) * (p)) + u))) rfl d_MessageCoderModel_m_13 ?_
  exact hret _ _ _ _ _ _ _ d_MessageCoderModel_m_14 (by decide) (by decide) rfl (⟨rfl, rfl, rfl⟩)

theorem d_MessageCoderModel_place_0 : decode prog_14_method_15_code 0 = .ok (.iconst 0, 1) := by decide +kernel
theorem d_MessageCoderModel_place_1 : decode prog_14_method_15_code 1 = .ok (.istore_n 2, 1) := by decide +kernel
theorem d_MessageCoderModel_place_2 : decode prog_14_method_15_code 2 = .ok (.iload_n 2, 1) := by decide +kernel
theorem d_MessageCoderModel_place_3 : decode prog_14_method_15_code 3 = .ok (.aload_n 0, 1) := by decide +kernel
theorem d_MessageCoderModel_place_4 : decode prog_14_method_15_code 4 = .ok (.getfield 9, 3) := by decide +kernel
theorem d_MessageCoderModel_place_7 : decode prog_14_method_15_code 7 = .ok (.iconst 1, 1) := by decide +kernel
theorem d_MessageCoderModel_place_8 : decode prog_14_method_15_code 8 = .ok (.iaload, 1) := by decide +kernel
theorem d_MessageCoderModel_place_9 : decode prog_14_method_15_code 9 = .ok (.if_icmp .ge 21, 3) := by decide +kernel
theorem d_MessageCoderModel_place_12 : decode prog_14_method_15_code 12 = .ok (.aload_n 0, 1) := by decide +kernel
theorem d_MessageCoderModel_place_13 : decode prog_14_method_15_code 13 = .ok (.iload_n 2, 1) := by decide +kernel
theorem d_MessageCoderModel_place_14 : decode prog_14_method_15_code 14 = .ok (.iconst 0, 1) := by decide +kernel
theorem d_MessageCoderModel_place_15 : decode prog_14_method_15_code 15 = .ok (.invokevirtual 81, 3) := by decide +kernel
theorem d_MessageCoderModel_place_18 : decode prog_14_method_15_code 18 = .ok (.iload_n 1, 1) := by decide +kernel
theorem d_MessageCoderModel_place_19 : decode prog_14_method_15_code 19 = .ok (.if_icmp .ne 5, 3) := by decide +kernel
theorem d_MessageCoderModel_place_22 : decode prog_14_method_15_code 22 = .ok (.iload_n 2, 1) := by decide +kernel
theorem d_MessageCoderModel_place_23 : decode prog_14_method_15_code 23 = .ok (.ireturn, 1) := by decide +kernel
theorem d_MessageCoderModel_place_24 : decode prog_14_method_15_code 24 = .ok (.iinc 2 1, 3) := by decide +kernel
theorem d_MessageCoderModel_place_27 : decode prog_14_method_15_code 27 = .ok (.goto (-25), 3) := by decide +kernel
theorem d_MessageCoderModel_place_30 : decode prog_14_method_15_code 30 = .ok (.iconst (-1), 1) := by decide +kernel
theorem d_MessageCoderModel_place_31 : decode prog_14_method_15_code 31 = .ok (.ireturn, 1) := by decide +kernel
set_option maxHeartbeats 4000000 in
set_option maxRecDepth 20000 in
theorem c_MessageCoderModel_place {P : xP} {F : xF} {z : Nat} {m : Nat} {th : Nat} {ch : Nat} {sv : Nat} {rs : Int32} {bm : Nat} {dm : Nat} {lz : Nat} {ty : Nat} {he : Nat} {er : Int32} {ea : Int32} {fa : Int32} {cn : Nat} {g : Nat → Nat} {A : aS} {a : Int32} (o0 : F (m) = some (.inl (10, [.int (nI (th)), .ref (m + 1), .int (nI (ch)), .int (nI (sv)), .int rs, .ref (m + 2), .ref (m + 3), .ref (m + 4), .ref (m + 5), .ref (m + 6), .int (nI (bm)), .ref (m + 7), .int (nI (dm)), .ref (m + 8), .ref (m + 9), .int (nI (lz)), .ref (m + 10), .int (nI (ty)), .int (nI (he)), .int er, .int ea, .int fa, .ref (m + 11), .int (nI (cn))]))) (ga : F (m + 1) = some (.inr (0, 4730, fun b9 => .int (nI (g b9))))) (hr : rRow g A) (hA : aInv A) : xM P xy_MessageCoderModel_place [.ref m, .int a] F (z) 0 0 (fun r9 F9 z9 => r9 = some (.int (plc (mIx A a) A.2.2.1.1)) ∧ F9 = F ∧ z9 = z) := by
  refine xM_i .int rfl (Nat.le_of_ble_eq_true rfl) (L0 := [some (.ref m), some (.int a), none]) rfl rfl fun Θ hC hret => ?_
  obtain ⟨⟨q0, q1, q2, q3, q4, q5, q6, q7, q9⟩, qw, qd, qm, qf, qx, qb⟩ := id hr
  obtain ⟨⟨u1, u2, u3, u4, u5⟩, uw, ud, um, uo, ut, ux, ub, un9⟩ := id hA
  refine x_iconst hC d_MessageCoderModel_place_0 (v := nI 0) (by decide) ?_
  refine x_istore_n hC d_MessageCoderModel_place_1 rfl (Nat.le_of_ble_eq_true rfl) (L1 := [some (.ref m), some (.int a), some (.int (nI 0))]) rfl ?_
  have loop_2 : ∀ (m9 : Nat) (i : Nat), (F (m) = some (.inl (10, [.int (nI (th)), .ref (m + 1), .int (nI (ch)), .int (nI (sv)), .int rs, .ref (m + 2), .ref (m + 3), .ref (m + 4), .ref (m + 5), .ref (m + 6), .int (nI (bm)), .ref (m + 7), .int (nI (dm)), .ref (m + 8), .ref (m + 9), .int (nI (lz)), .ref (m + 10), .int (nI (ty)), .int (nI (he)), .int er, .int ea, .int fa, .ref (m + 11), .int (nI (cn))]))) → (F (m + 1) = some (.inr (0, 4730, fun b9 => .int (nI (g b9))))) → (i ≤ A.2.2.1.1) → (∀ j, j < i → decide (nI (A.2.2.1.2.2 j).1 = a) = false) → (A.2.2.1.1 - i < m9) → xX P Θ 2 [some (.ref m), some (.int a), some (.int (nI (i)))] [] F (z) 0 0 := by
    intro m9
    induction m9 with
    | zero => intros; omega
    | succ m9 ih_2 =>
      intro  i o0 ga hi kr hm_2
      refine x_iload_n hC d_MessageCoderModel_place_2 rfl rfl ?_
      refine x_aload_n hC d_MessageCoderModel_place_3 rfl rfl ?_
      refine x_getf hC kf_MessageCoderModel_9 o0 rfl d_MessageCoderModel_place_4 ?_
      refine x_iconst hC d_MessageCoderModel_place_7 (v := nI 1) (by decide) ?_
      refine x_iald hC ga (j := 1) ⟨rfl, by omega, by omega⟩ (x := nI (A.2.2.1.1)) (congrArg nI q1) d_MessageCoderModel_place_8 ?_
      refine x_icmpN_ge hC d_MessageCoderModel_place_9 (tgt := 30) (by decide) (by omega) (by omega) (fun c_9 => ?_) (fun c_9 => ?_)
      · skip
        refine x_iconst hC d_MessageCoderModel_place_30 (v := -1) (by decide) ?_
        refine hret _ _ _ _ _ _ _ d_MessageCoderModel_place_31 (by decide) (by decide) rfl ?_
        have hid : mIx A a = A.2.2.1.1 := fsN_none A.2.2.1.1 (fun j hj => kr j (by omega))
        exact ⟨by rw [hid]; exact congrArg (fun q => some (Value.int q)) (if_neg (Nat.lt_irrefl _)).symm, rfl, rfl⟩
      · skip
        refine x_aload_n hC d_MessageCoderModel_place_12 rfl rfl ?_
        refine x_iload_n hC d_MessageCoderModel_place_13 rfl rfl ?_
        refine x_iconst hC d_MessageCoderModel_place_14 (v := nI 0) (by decide) ?_
        refine x_callV hC kv_MessageCoderModel_81 (c_MessageCoderModel_m (o0 := o0) (ga := ga) (hpw := by omega)) o0 rfl rfl (by decide) rfl rfl rfl (Nat.le_of_ble_eq_true rfl) (by decide) d_MessageCoderModel_place_15 (fun r9 F9 z9 hp9 => ?_)
        obtain ⟨rfl, h9b, h9c⟩ := hp9
        rw [h9b, h9c]
        clear h9b h9c F9 z9
        refine x_top (v := (nI ((A.2.2.1.2.2 i).1))) (congrArg nI (qm i (by omega)).1) ?_
        refine x_iload_n hC d_MessageCoderModel_place_18 rfl rfl ?_
        refine x_icmp_ne hC d_MessageCoderModel_place_19 (tgt := 24) (by decide) (fun c_19 => ?_) (fun c_19 => ?_)
        · skip
          refine x_iinc hC d_MessageCoderModel_place_24 rfl (v := (nI (i + 1))) (x_incN 1) (Nat.le_of_ble_eq_true rfl) (L1 := [some (.ref m), some (.int a), some (.int (nI (i + 1)))]) rfl ?_
          refine x_goto hC d_MessageCoderModel_place_27 (tgt := 2) (by decide) ?_
          exact ih_2  (i + 1) o0 ga (by omega) (fun j hj => (Nat.lt_or_ge j i).elim (kr j) (fun q9 => by rw [show j = i by omega]; exact decide_eq_false c_19)) (by omega)
        · skip
          refine x_iload_n hC d_MessageCoderModel_place_22 rfl rfl ?_
          refine hret _ _ _ _ _ _ _ d_MessageCoderModel_place_23 (by decide) (by decide) rfl ?_
          have hid : mIx A a = i := fsN_hit (decide_eq_true c_19) kr A.2.2.1.1 c_9
          exact ⟨by rw [hid, plc_of c_9], rfl, rfl⟩
  exact loop_2 (A.2.2.1.1 - 0 + 1)  (0) o0 ga (by omega) (fun _ hj => absurd hj (by omega)) (by omega)

theorem d_MessageCoderModel_isThere_0 : decode prog_14_method_16_code 0 = .ok (.aload_n 0, 1) := by decide +kernel
theorem d_MessageCoderModel_isThere_1 : decode prog_14_method_16_code 1 = .ok (.iload_n 1, 1) := by decide +kernel
theorem d_MessageCoderModel_isThere_2 : decode prog_14_method_16_code 2 = .ok (.invokevirtual 85, 3) := by decide +kernel
theorem d_MessageCoderModel_isThere_5 : decode prog_14_method_16_code 5 = .ok (.ifCond .lt 7, 3) := by decide +kernel
theorem d_MessageCoderModel_isThere_8 : decode prog_14_method_16_code 8 = .ok (.iconst 1, 1) := by decide +kernel
theorem d_MessageCoderModel_isThere_9 : decode prog_14_method_16_code 9 = .ok (.goto 4, 3) := by decide +kernel
theorem d_MessageCoderModel_isThere_12 : decode prog_14_method_16_code 12 = .ok (.iconst 0, 1) := by decide +kernel
theorem d_MessageCoderModel_isThere_13 : decode prog_14_method_16_code 13 = .ok (.ireturn, 1) := by decide +kernel
set_option maxHeartbeats 4000000 in
set_option maxRecDepth 20000 in
theorem c_MessageCoderModel_isThere {P : xP} {F : xF} {z : Nat} {m : Nat} {th : Nat} {ch : Nat} {sv : Nat} {rs : Int32} {bm : Nat} {dm : Nat} {lz : Nat} {ty : Nat} {he : Nat} {er : Int32} {ea : Int32} {fa : Int32} {cn : Nat} {g : Nat → Nat} {A : aS} {a : Int32} (o0 : F (m) = some (.inl (10, [.int (nI (th)), .ref (m + 1), .int (nI (ch)), .int (nI (sv)), .int rs, .ref (m + 2), .ref (m + 3), .ref (m + 4), .ref (m + 5), .ref (m + 6), .int (nI (bm)), .ref (m + 7), .int (nI (dm)), .ref (m + 8), .ref (m + 9), .int (nI (lz)), .ref (m + 10), .int (nI (ty)), .int (nI (he)), .int er, .int ea, .int fa, .ref (m + 11), .int (nI (cn))]))) (ga : F (m + 1) = some (.inr (0, 4730, fun b9 => .int (nI (g b9))))) (hr : rRow g A) (hA : aInv A) : xM P xy_MessageCoderModel_isThere [.ref m, .int a] F (z) 0 0 (fun r9 F9 z9 => r9 = some (.int (xb (mOk A a))) ∧ F9 = F ∧ z9 = z) := by
  refine xM_i .boolean rfl (Nat.le_of_ble_eq_true rfl) (L0 := [some (.ref m), some (.int a)]) rfl rfl fun Θ hC hret => ?_
  have u2 := hA.1.2.1
  refine x_aload_n hC d_MessageCoderModel_isThere_0 rfl rfl ?_
  refine x_iload_n hC d_MessageCoderModel_isThere_1 rfl rfl ?_
  refine x_callV hC kv_MessageCoderModel_85 (c_MessageCoderModel_place (o0 := o0) (ga := ga) (hr := hr) (hA := hA)) o0 rfl rfl (by decide) rfl rfl rfl (Nat.le_of_ble_eq_true rfl) (by decide) d_MessageCoderModel_isThere_2 (fun r9 F9 z9 hp9 => ?_)
  obtain ⟨rfl, h9b, h9c⟩ := hp9
  rw [h9b, h9c]
  clear h9b h9c F9 z9
  refine x_if_lt hC d_MessageCoderModel_isThere_5 (tgt := 12) (by decide) (fun c_5 => ?_) (fun c_5 => ?_)
  · skip
    refine x_iconst hC d_MessageCoderModel_isThere_12 (v := nI 0) (by decide) ?_
    exact hret _ _ _ _ _ _ _ d_MessageCoderModel_isThere_13 (by decide) (by decide) rfl (⟨congrArg (fun q => some (Value.int q)) (xb_f0 ((plc_lt (by omega)).mp c_5)), rfl, rfl⟩)
  · skip
    refine x_iconst hC d_MessageCoderModel_isThere_8 (v := nI 1) (by decide) ?_
    refine x_goto hC d_MessageCoderModel_isThere_9 (tgt := 13) (by decide) ?_
    exact hret _ _ _ _ _ _ _ d_MessageCoderModel_isThere_13 (by decide) (by decide) rfl (⟨congrArg (fun q => some (Value.int q)) (xb_t1 (Decidable.not_not.mp (fun h9 => c_5 ((plc_lt (by omega)).mpr h9)))), rfl, rfl⟩)

theorem d_MessageCoderModel_rankOfMessage_0 : decode prog_14_method_17_code 0 = .ok (.iconst 0, 1) := by decide +kernel
theorem d_MessageCoderModel_rankOfMessage_1 : decode prog_14_method_17_code 1 = .ok (.istore_n 2, 1) := by decide +kernel
theorem d_MessageCoderModel_rankOfMessage_2 : decode prog_14_method_17_code 2 = .ok (.iconst 0, 1) := by decide +kernel
theorem d_MessageCoderModel_rankOfMessage_3 : decode prog_14_method_17_code 3 = .ok (.istore_n 3, 1) := by decide +kernel
theorem d_MessageCoderModel_rankOfMessage_4 : decode prog_14_method_17_code 4 = .ok (.iload_n 3, 1) := by decide +kernel
theorem d_MessageCoderModel_rankOfMessage_5 : decode prog_14_method_17_code 5 = .ok (.aload_n 0, 1) := by decide +kernel
theorem d_MessageCoderModel_rankOfMessage_6 : decode prog_14_method_17_code 6 = .ok (.getfield 9, 3) := by decide +kernel
theorem d_MessageCoderModel_rankOfMessage_9 : decode prog_14_method_17_code 9 = .ok (.iconst 1, 1) := by decide +kernel
theorem d_MessageCoderModel_rankOfMessage_10 : decode prog_14_method_17_code 10 = .ok (.iaload, 1) := by decide +kernel
theorem d_MessageCoderModel_rankOfMessage_11 : decode prog_14_method_17_code 11 = .ok (.if_icmp .ge 52, 3) := by decide +kernel
theorem d_MessageCoderModel_rankOfMessage_14 : decode prog_14_method_17_code 14 = .ok (.iload_n 2, 1) := by decide +kernel
theorem d_MessageCoderModel_rankOfMessage_15 : decode prog_14_method_17_code 15 = .ok (.aload_n 0, 1) := by decide +kernel
theorem d_MessageCoderModel_rankOfMessage_16 : decode prog_14_method_17_code 16 = .ok (.iload_n 3, 1) := by decide +kernel
theorem d_MessageCoderModel_rankOfMessage_17 : decode prog_14_method_17_code 17 = .ok (.iconst 1, 1) := by decide +kernel
theorem d_MessageCoderModel_rankOfMessage_18 : decode prog_14_method_17_code 18 = .ok (.invokevirtual 81, 3) := by decide +kernel
theorem d_MessageCoderModel_rankOfMessage_21 : decode prog_14_method_17_code 21 = .ok (.aload_n 0, 1) := by decide +kernel
theorem d_MessageCoderModel_rankOfMessage_22 : decode prog_14_method_17_code 22 = .ok (.iload_n 1, 1) := by decide +kernel
theorem d_MessageCoderModel_rankOfMessage_23 : decode prog_14_method_17_code 23 = .ok (.iconst 1, 1) := by decide +kernel
theorem d_MessageCoderModel_rankOfMessage_24 : decode prog_14_method_17_code 24 = .ok (.invokevirtual 81, 3) := by decide +kernel
theorem d_MessageCoderModel_rankOfMessage_27 : decode prog_14_method_17_code 27 = .ok (.if_icmp .gt 23, 3) := by decide +kernel
theorem d_MessageCoderModel_rankOfMessage_30 : decode prog_14_method_17_code 30 = .ok (.aload_n 0, 1) := by decide +kernel
theorem d_MessageCoderModel_rankOfMessage_31 : decode prog_14_method_17_code 31 = .ok (.iload_n 3, 1) := by decide +kernel
theorem d_MessageCoderModel_rankOfMessage_32 : decode prog_14_method_17_code 32 = .ok (.iconst 1, 1) := by decide +kernel
theorem d_MessageCoderModel_rankOfMessage_33 : decode prog_14_method_17_code 33 = .ok (.invokevirtual 81, 3) := by decide +kernel
theorem d_MessageCoderModel_rankOfMessage_36 : decode prog_14_method_17_code 36 = .ok (.aload_n 0, 1) := by decide +kernel
theorem d_MessageCoderModel_rankOfMessage_37 : decode prog_14_method_17_code 37 = .ok (.iload_n 1, 1) := by decide +kernel
theorem d_MessageCoderModel_rankOfMessage_38 : decode prog_14_method_17_code 38 = .ok (.iconst 1, 1) := by decide +kernel
theorem d_MessageCoderModel_rankOfMessage_39 : decode prog_14_method_17_code 39 = .ok (.invokevirtual 81, 3) := by decide +kernel
theorem d_MessageCoderModel_rankOfMessage_42 : decode prog_14_method_17_code 42 = .ok (.if_icmp .ne 12, 3) := by decide +kernel
theorem d_MessageCoderModel_rankOfMessage_45 : decode prog_14_method_17_code 45 = .ok (.iload_n 3, 1) := by decide +kernel
theorem d_MessageCoderModel_rankOfMessage_46 : decode prog_14_method_17_code 46 = .ok (.iload_n 1, 1) := by decide +kernel
theorem d_MessageCoderModel_rankOfMessage_47 : decode prog_14_method_17_code 47 = .ok (.if_icmp .ge 7, 3) := by decide +kernel
theorem d_MessageCoderModel_rankOfMessage_50 : decode prog_14_method_17_code 50 = .ok (.iconst 1, 1) := by decide +kernel
theorem d_MessageCoderModel_rankOfMessage_51 : decode prog_14_method_17_code 51 = .ok (.goto 4, 3) := by decide +kernel
theorem d_MessageCoderModel_rankOfMessage_54 : decode prog_14_method_17_code 54 = .ok (.iconst 0, 1) := by decide +kernel
theorem d_MessageCoderModel_rankOfMessage_55 : decode prog_14_method_17_code 55 = .ok (.iadd, 1) := by decide +kernel
theorem d_MessageCoderModel_rankOfMessage_56 : decode prog_14_method_17_code 56 = .ok (.istore_n 2, 1) := by decide +kernel
theorem d_MessageCoderModel_rankOfMessage_57 : decode prog_14_method_17_code 57 = .ok (.iinc 3 1, 3) := by decide +kernel
theorem d_MessageCoderModel_rankOfMessage_60 : decode prog_14_method_17_code 60 = .ok (.goto (-56), 3) := by decide +kernel
theorem d_MessageCoderModel_rankOfMessage_63 : decode prog_14_method_17_code 63 = .ok (.iload_n 2, 1) := by decide +kernel
theorem d_MessageCoderModel_rankOfMessage_64 : decode prog_14_method_17_code 64 = .ok (.ireturn, 1) := by decide +kernel
set_option maxHeartbeats 4000000 in
set_option maxRecDepth 20000 in
theorem c_MessageCoderModel_rankOfMessage {P : xP} {F : xF} {z : Nat} {m : Nat} {th : Nat} {ch : Nat} {sv : Nat} {rs : Int32} {bm : Nat} {dm : Nat} {lz : Nat} {ty : Nat} {he : Nat} {er : Int32} {ea : Int32} {fa : Int32} {cn : Nat} {g : Nat → Nat} {A : aS} {p : Nat} (o0 : F (m) = some (.inl (10, [.int (nI (th)), .ref (m + 1), .int (nI (ch)), .int (nI (sv)), .int rs, .ref (m + 2), .ref (m + 3), .ref (m + 4), .ref (m + 5), .ref (m + 6), .int (nI (bm)), .ref (m + 7), .int (nI (dm)), .ref (m + 8), .ref (m + 9), .int (nI (lz)), .ref (m + 10), .int (nI (ty)), .int (nI (he)), .int er, .int ea, .int fa, .ref (m + 11), .int (nI (cn))]))) (ga : F (m + 1) = some (.inr (0, 4730, fun b9 => .int (nI (g b9))))) (hr : rRow g A) (hA : aInv A) (hp : p < A.2.2.1.1) : xM P xy_MessageCoderModel_rankOfMessage [.ref m, .int (nI (p))] F (z) 0 0 (fun r9 F9 z9 => r9 = some (.int (nI (rkM A.2.2.1.2.2 p A.2.2.1.1))) ∧ F9 = F ∧ z9 = z) := by
  refine xM_i .int rfl (Nat.le_of_ble_eq_true rfl) (L0 := [some (.ref m), some (.int (nI (p))), none, none]) rfl rfl fun Θ hC hret => ?_
  obtain ⟨⟨q0, q1, q2, q3, q4, q5, q6, q7, q9⟩, qw, qd, qm, qf, qx, qb⟩ := id hr
  obtain ⟨⟨u1, u2, u3, u4, u5⟩, uw, ud, um, uo, ut, ux, ub, un9⟩ := id hA
  refine x_iconst hC d_MessageCoderModel_rankOfMessage_0 (v := nI 0) (by decide) ?_
  refine x_istore_n hC d_MessageCoderModel_rankOfMessage_1 rfl (Nat.le_of_ble_eq_true rfl) (L1 := [some (.ref m), some (.int (nI (p))), some (.int (nI 0)), none]) rfl ?_
  refine x_iconst hC d_MessageCoderModel_rankOfMessage_2 (v := nI 0) (by decide) ?_
  refine x_istore_n hC d_MessageCoderModel_rankOfMessage_3 rfl (Nat.le_of_ble_eq_true rfl) (L1 := [some (.ref m), some (.int (nI (p))), some (.int (nI 0)), some (.int (nI 0))]) rfl ?_
  have loop_4 : ∀ (m9 : Nat) (i : Nat) (n1 : Nat), (F (m) = some (.inl (10, [.int (nI (th)), .ref (m + 1), .int (nI (ch)), .int (nI (sv)), .int rs, .ref (m + 2), .ref (m + 3), .ref (m + 4), .ref (m + 5), .ref (m + 6), .int (nI (bm)), .ref (m + 7), .int (nI (dm)), .ref (m + 8), .ref (m + 9), .int (nI (lz)), .ref (m + 10), .int (nI (ty)), .int (nI (he)), .int er, .int ea, .int fa, .ref (m + 11), .int (nI (cn))]))) → (F (m + 1) = some (.inr (0, 4730, fun b9 => .int (nI (g b9))))) → (i ≤ A.2.2.1.1) → (n1 = rkM A.2.2.1.2.2 p i) → (A.2.2.1.1 - i < m9) → xX P Θ 4 [some (.ref m), some (.int (nI (p))), some (.int (nI (n1))), some (.int (nI (i)))] [] F (z) 0 0 := by
    intro m9
    induction m9 with
    | zero => intros; omega
    | succ m9 ih_4 =>
      intro  i n1 o0 ga hi kq hm_4
      have hn1 : n1 ≤ i := by rw [kq]; exact rkM_le _ p i
      refine x_iload_n hC d_MessageCoderModel_rankOfMessage_4 rfl rfl ?_
      refine x_aload_n hC d_MessageCoderModel_rankOfMessage_5 rfl rfl ?_
      refine x_getf hC kf_MessageCoderModel_9 o0 rfl d_MessageCoderModel_rankOfMessage_6 ?_
      refine x_iconst hC d_MessageCoderModel_rankOfMessage_9 (v := nI 1) (by decide) ?_
      refine x_iald hC ga (j := 1) ⟨rfl, by omega, by omega⟩ (x := nI (A.2.2.1.1)) (congrArg nI q1) d_MessageCoderModel_rankOfMessage_10 ?_
      refine x_icmpN_ge hC d_MessageCoderModel_rankOfMessage_11 (tgt := 63) (by decide) (by omega) (by omega) (fun c_11 => ?_) (fun c_11 => ?_)
      · skip
        refine x_iload_n hC d_MessageCoderModel_rankOfMessage_63 rfl rfl ?_
        exact hret _ _ _ _ _ _ _ d_MessageCoderModel_rankOfMessage_64 (by decide) (by decide) rfl (⟨by rw [kq, show i = A.2.2.1.1 by omega], rfl, rfl⟩)
      · skip
        have hum := (um i (by omega)).2.1
        have hup := (um p hp).2.1
        have hid := id_iff hA (show i < A.2.2.1.1 by omega) hp
        refine x_iload_n hC d_MessageCoderModel_rankOfMessage_14 rfl rfl ?_
        refine x_aload_n hC d_MessageCoderModel_rankOfMessage_15 rfl rfl ?_
        refine x_iload_n hC d_MessageCoderModel_rankOfMessage_16 rfl rfl ?_
        refine x_iconst hC d_MessageCoderModel_rankOfMessage_17 (v := nI 1) (by decide) ?_
        refine x_callV hC kv_MessageCoderModel_81 (c_MessageCoderModel_m (o0 := o0) (ga := ga) (hpw := by omega)) o0 rfl rfl (by decide) rfl rfl rfl (Nat.le_of_ble_eq_true rfl) (by decide) d_MessageCoderModel_rankOfMessage_18 (fun r9 F9 z9 hp9 => ?_)
        obtain ⟨rfl, h9b, h9c⟩ := hp9
        rw [h9b, h9c]
        clear h9b h9c F9 z9
        refine x_top (v := (nI ((A.2.2.1.2.2 i).2.1))) (congrArg nI (qm i (by omega)).2.1) ?_
        refine x_aload_n hC d_MessageCoderModel_rankOfMessage_21 rfl rfl ?_
        refine x_iload_n hC d_MessageCoderModel_rankOfMessage_22 rfl rfl ?_
        refine x_iconst hC d_MessageCoderModel_rankOfMessage_23 (v := nI 1) (by decide) ?_
        refine x_callV hC kv_MessageCoderModel_81 (c_MessageCoderModel_m (o0 := o0) (ga := ga) (hpw := by omega)) o0 rfl rfl (by decide) rfl rfl rfl (Nat.le_of_ble_eq_true rfl) (by decide) d_MessageCoderModel_rankOfMessage_24 (fun r9 F9 z9 hp9 => ?_)
        obtain ⟨rfl, h9b, h9c⟩ := hp9
        rw [h9b, h9c]
        clear h9b h9c F9 z9
        refine x_top (v := (nI ((A.2.2.1.2.2 p).2.1))) (congrArg nI (qm p (by omega)).2.1) ?_
        refine x_icmpN_gt hC d_MessageCoderModel_rankOfMessage_27 (tgt := 50) (by decide) (by omega) (by omega) (fun c_27 => ?_) (fun c_27 => ?_)
        · skip
          refine x_iconst hC d_MessageCoderModel_rankOfMessage_50 (v := nI 1) (by decide) ?_
          refine x_goto hC d_MessageCoderModel_rankOfMessage_51 (tgt := 55) (by decide) ?_
          refine x_iadd hC d_MessageCoderModel_rankOfMessage_55 (v := (nI (n1 + 1))) (x_addN (by omega)) ?_
          refine x_istore_n hC d_MessageCoderModel_rankOfMessage_56 rfl (Nat.le_of_ble_eq_true rfl) (L1 := [some (.ref m), some (.int (nI (p))), some (.int (nI (n1 + 1))), some (.int (nI (i)))]) rfl ?_
          refine x_iinc hC d_MessageCoderModel_rankOfMessage_57 rfl (v := (nI (i + 1))) (x_incN 1) (Nat.le_of_ble_eq_true rfl) (L1 := [some (.ref m), some (.int (nI (p))), some (.int (nI (n1 + 1))), some (.int (nI (i + 1)))]) rfl ?_
          refine x_goto hC d_MessageCoderModel_rankOfMessage_60 (tgt := 4) (by decide) ?_
          exact ih_4  (i + 1) (n1 + 1) o0 ga (by omega) (by first | (rw [kq, rkM, if_pos (by omega)]; done) | (rw [kq, rkM, if_neg (by omega)])) (by omega)
        · skip
          refine x_aload_n hC d_MessageCoderModel_rankOfMessage_30 rfl rfl ?_
          refine x_iload_n hC d_MessageCoderModel_rankOfMessage_31 rfl rfl ?_
          refine x_iconst hC d_MessageCoderModel_rankOfMessage_32 (v := nI 1) (by decide) ?_
          refine x_callV hC kv_MessageCoderModel_81 (c_MessageCoderModel_m (o0 := o0) (ga := ga) (hpw := by omega)) o0 rfl rfl (by decide) rfl rfl rfl (Nat.le_of_ble_eq_true rfl) (by decide) d_MessageCoderModel_rankOfMessage_33 (fun r9 F9 z9 hp9 => ?_)
          obtain ⟨rfl, h9b, h9c⟩ := hp9
          rw [h9b, h9c]
          clear h9b h9c F9 z9
          refine x_top (v := (nI ((A.2.2.1.2.2 i).2.1))) (congrArg nI (qm i (by omega)).2.1) ?_
          refine x_aload_n hC d_MessageCoderModel_rankOfMessage_36 rfl rfl ?_
          refine x_iload_n hC d_MessageCoderModel_rankOfMessage_37 rfl rfl ?_
          refine x_iconst hC d_MessageCoderModel_rankOfMessage_38 (v := nI 1) (by decide) ?_
          refine x_callV hC kv_MessageCoderModel_81 (c_MessageCoderModel_m (o0 := o0) (ga := ga) (hpw := by omega)) o0 rfl rfl (by decide) rfl rfl rfl (Nat.le_of_ble_eq_true rfl) (by decide) d_MessageCoderModel_rankOfMessage_39 (fun r9 F9 z9 hp9 => ?_)
          obtain ⟨rfl, h9b, h9c⟩ := hp9
          rw [h9b, h9c]
          clear h9b h9c F9 z9
          refine x_top (v := (nI ((A.2.2.1.2.2 p).2.1))) (congrArg nI (qm p (by omega)).2.1) ?_
          refine x_icmpN_ne hC d_MessageCoderModel_rankOfMessage_42 (tgt := 54) (by decide) (by omega) (by omega) (fun c_42 => ?_) (fun c_42 => ?_)
          · skip
            refine x_iconst hC d_MessageCoderModel_rankOfMessage_54 (v := nI 0) (by decide) ?_
            refine x_iadd hC d_MessageCoderModel_rankOfMessage_55 (v := (nI (n1))) (x_addN (by omega)) ?_
            refine x_istore_n hC d_MessageCoderModel_rankOfMessage_56 rfl (Nat.le_of_ble_eq_true rfl) (L1 := [some (.ref m), some (.int (nI (p))), some (.int (nI (n1))), some (.int (nI (i)))]) rfl ?_
            refine x_iinc hC d_MessageCoderModel_rankOfMessage_57 rfl (v := (nI (i + 1))) (x_incN 1) (Nat.le_of_ble_eq_true rfl) (L1 := [some (.ref m), some (.int (nI (p))), some (.int (nI (n1))), some (.int (nI (i + 1)))]) rfl ?_
            refine x_goto hC d_MessageCoderModel_rankOfMessage_60 (tgt := 4) (by decide) ?_
            exact ih_4  (i + 1) (n1) o0 ga (by omega) (by first | (rw [kq, rkM, if_pos (by omega)]; done) | (rw [kq, rkM, if_neg (by omega)])) (by omega)
          · skip
            refine x_iload_n hC d_MessageCoderModel_rankOfMessage_45 rfl rfl ?_
            refine x_iload_n hC d_MessageCoderModel_rankOfMessage_46 rfl rfl ?_
            refine x_icmpN_ge hC d_MessageCoderModel_rankOfMessage_47 (tgt := 54) (by decide) (by omega) (by omega) (fun c_47 => ?_) (fun c_47 => ?_)
            · skip
              refine x_iconst hC d_MessageCoderModel_rankOfMessage_54 (v := nI 0) (by decide) ?_
              refine x_iadd hC d_MessageCoderModel_rankOfMessage_55 (v := (nI (n1))) (x_addN (by omega)) ?_
              refine x_istore_n hC d_MessageCoderModel_rankOfMessage_56 rfl (Nat.le_of_ble_eq_true rfl) (L1 := [some (.ref m), some (.int (nI (p))), some (.int (nI (n1))), some (.int (nI (i)))]) rfl ?_
              refine x_iinc hC d_MessageCoderModel_rankOfMessage_57 rfl (v := (nI (i + 1))) (x_incN 1) (Nat.le_of_ble_eq_true rfl) (L1 := [some (.ref m), some (.int (nI (p))), some (.int (nI (n1))), some (.int (nI (i + 1)))]) rfl ?_
              refine x_goto hC d_MessageCoderModel_rankOfMessage_60 (tgt := 4) (by decide) ?_
              exact ih_4  (i + 1) (n1) o0 ga (by omega) (by first | (rw [kq, rkM, if_pos (by omega)]; done) | (rw [kq, rkM, if_neg (by omega)])) (by omega)
            · skip
              refine x_iconst hC d_MessageCoderModel_rankOfMessage_50 (v := nI 1) (by decide) ?_
              refine x_goto hC d_MessageCoderModel_rankOfMessage_51 (tgt := 55) (by decide) ?_
              refine x_iadd hC d_MessageCoderModel_rankOfMessage_55 (v := (nI (n1 + 1))) (x_addN (by omega)) ?_
              refine x_istore_n hC d_MessageCoderModel_rankOfMessage_56 rfl (Nat.le_of_ble_eq_true rfl) (L1 := [some (.ref m), some (.int (nI (p))), some (.int (nI (n1 + 1))), some (.int (nI (i)))]) rfl ?_
              refine x_iinc hC d_MessageCoderModel_rankOfMessage_57 rfl (v := (nI (i + 1))) (x_incN 1) (Nat.le_of_ble_eq_true rfl) (L1 := [some (.ref m), some (.int (nI (p))), some (.int (nI (n1 + 1))), some (.int (nI (i + 1)))]) rfl ?_
              refine x_goto hC d_MessageCoderModel_rankOfMessage_60 (tgt := 4) (by decide) ?_
              exact ih_4  (i + 1) (n1 + 1) o0 ga (by omega) (by first | (rw [kq, rkM, if_pos (by omega)]; done) | (rw [kq, rkM, if_neg (by omega)])) (by omega)
  exact loop_4 (A.2.2.1.1 - 0 + 1)  (0) (0) o0 ga (by omega) (rfl) (by omega)

theorem d_MessageCoderModel_placeAtRank_0 : decode prog_14_method_18_code 0 = .ok (.iconst 0, 1) := by decide +kernel
theorem d_MessageCoderModel_placeAtRank_1 : decode prog_14_method_18_code 1 = .ok (.istore_n 2, 1) := by decide +kernel
theorem d_MessageCoderModel_placeAtRank_2 : decode prog_14_method_18_code 2 = .ok (.iload_n 2, 1) := by decide +kernel
theorem d_MessageCoderModel_placeAtRank_3 : decode prog_14_method_18_code 3 = .ok (.aload_n 0, 1) := by decide +kernel
theorem d_MessageCoderModel_placeAtRank_4 : decode prog_14_method_18_code 4 = .ok (.getfield 9, 3) := by decide +kernel
theorem d_MessageCoderModel_placeAtRank_7 : decode prog_14_method_18_code 7 = .ok (.iconst 1, 1) := by decide +kernel
theorem d_MessageCoderModel_placeAtRank_8 : decode prog_14_method_18_code 8 = .ok (.iaload, 1) := by decide +kernel
theorem d_MessageCoderModel_placeAtRank_9 : decode prog_14_method_18_code 9 = .ok (.if_icmp .ge 20, 3) := by decide +kernel
theorem d_MessageCoderModel_placeAtRank_12 : decode prog_14_method_18_code 12 = .ok (.aload_n 0, 1) := by decide +kernel
theorem d_MessageCoderModel_placeAtRank_13 : decode prog_14_method_18_code 13 = .ok (.iload_n 2, 1) := by decide +kernel
theorem d_MessageCoderModel_placeAtRank_14 : decode prog_14_method_18_code 14 = .ok (.invokevirtual 88, 3) := by decide +kernel
theorem d_MessageCoderModel_placeAtRank_17 : decode prog_14_method_18_code 17 = .ok (.iload_n 1, 1) := by decide +kernel
theorem d_MessageCoderModel_placeAtRank_18 : decode prog_14_method_18_code 18 = .ok (.if_icmp .ne 5, 3) := by decide +kernel
theorem d_MessageCoderModel_placeAtRank_21 : decode prog_14_method_18_code 21 = .ok (.iload_n 2, 1) := by decide +kernel
theorem d_MessageCoderModel_placeAtRank_22 : decode prog_14_method_18_code 22 = .ok (.ireturn, 1) := by decide +kernel
theorem d_MessageCoderModel_placeAtRank_23 : decode prog_14_method_18_code 23 = .ok (.iinc 2 1, 3) := by decide +kernel
theorem d_MessageCoderModel_placeAtRank_26 : decode prog_14_method_18_code 26 = .ok (.goto (-24), 3) := by decide +kernel
theorem d_MessageCoderModel_placeAtRank_29 : decode prog_14_method_18_code 29 = .ok (.iconst (-1), 1) := by decide +kernel
theorem d_MessageCoderModel_placeAtRank_30 : decode prog_14_method_18_code 30 = .ok (.ireturn, 1) := by decide +kernel
set_option maxHeartbeats 4000000 in
set_option maxRecDepth 20000 in
theorem c_MessageCoderModel_placeAtRank {P : xP} {F : xF} {z : Nat} {m : Nat} {th : Nat} {ch : Nat} {sv : Nat} {rs : Int32} {bm : Nat} {dm : Nat} {lz : Nat} {ty : Nat} {he : Nat} {er : Int32} {ea : Int32} {fa : Int32} {cn : Nat} {g : Nat → Nat} {A : aS} {a : Int32} (o0 : F (m) = some (.inl (10, [.int (nI (th)), .ref (m + 1), .int (nI (ch)), .int (nI (sv)), .int rs, .ref (m + 2), .ref (m + 3), .ref (m + 4), .ref (m + 5), .ref (m + 6), .int (nI (bm)), .ref (m + 7), .int (nI (dm)), .ref (m + 8), .ref (m + 9), .int (nI (lz)), .ref (m + 10), .int (nI (ty)), .int (nI (he)), .int er, .int ea, .int fa, .ref (m + 11), .int (nI (cn))]))) (ga : F (m + 1) = some (.inr (0, 4730, fun b9 => .int (nI (g b9))))) (hr : rRow g A) (hA : aInv A) : xM P xy_MessageCoderModel_placeAtRank [.ref m, .int a] F (z) 0 0 (fun r9 F9 z9 => r9 = some (.int (plc (mRk A a) A.2.2.1.1)) ∧ F9 = F ∧ z9 = z) := by
  refine xM_i .int rfl (Nat.le_of_ble_eq_true rfl) (L0 := [some (.ref m), some (.int a), none]) rfl rfl fun Θ hC hret => ?_
  obtain ⟨⟨q0, q1, q2, q3, q4, q5, q6, q7, q9⟩, qw, qd, qm, qf, qx, qb⟩ := id hr
  obtain ⟨⟨u1, u2, u3, u4, u5⟩, uw, ud, um, uo, ut, ux, ub, un9⟩ := id hA
  refine x_iconst hC d_MessageCoderModel_placeAtRank_0 (v := nI 0) (by decide) ?_
  refine x_istore_n hC d_MessageCoderModel_placeAtRank_1 rfl (Nat.le_of_ble_eq_true rfl) (L1 := [some (.ref m), some (.int a), some (.int (nI 0))]) rfl ?_
  have loop_2 : ∀ (m9 : Nat) (i : Nat), (F (m) = some (.inl (10, [.int (nI (th)), .ref (m + 1), .int (nI (ch)), .int (nI (sv)), .int rs, .ref (m + 2), .ref (m + 3), .ref (m + 4), .ref (m + 5), .ref (m + 6), .int (nI (bm)), .ref (m + 7), .int (nI (dm)), .ref (m + 8), .ref (m + 9), .int (nI (lz)), .ref (m + 10), .int (nI (ty)), .int (nI (he)), .int er, .int ea, .int fa, .ref (m + 11), .int (nI (cn))]))) → (F (m + 1) = some (.inr (0, 4730, fun b9 => .int (nI (g b9))))) → (i ≤ A.2.2.1.1) → (∀ j, j < i → decide (nI (rkM A.2.2.1.2.2 j A.2.2.1.1) = a) = false) → (A.2.2.1.1 - i < m9) → xX P Θ 2 [some (.ref m), some (.int a), some (.int (nI (i)))] [] F (z) 0 0 := by
    intro m9
    induction m9 with
    | zero => intros; omega
    | succ m9 ih_2 =>
      intro  i o0 ga hi kr hm_2
      refine x_iload_n hC d_MessageCoderModel_placeAtRank_2 rfl rfl ?_
      refine x_aload_n hC d_MessageCoderModel_placeAtRank_3 rfl rfl ?_
      refine x_getf hC kf_MessageCoderModel_9 o0 rfl d_MessageCoderModel_placeAtRank_4 ?_
      refine x_iconst hC d_MessageCoderModel_placeAtRank_7 (v := nI 1) (by decide) ?_
      refine x_iald hC ga (j := 1) ⟨rfl, by omega, by omega⟩ (x := nI (A.2.2.1.1)) (congrArg nI q1) d_MessageCoderModel_placeAtRank_8 ?_
      refine x_icmpN_ge hC d_MessageCoderModel_placeAtRank_9 (tgt := 29) (by decide) (by omega) (by omega) (fun c_9 => ?_) (fun c_9 => ?_)
      · skip
        refine x_iconst hC d_MessageCoderModel_placeAtRank_29 (v := -1) (by decide) ?_
        refine hret _ _ _ _ _ _ _ d_MessageCoderModel_placeAtRank_30 (by decide) (by decide) rfl ?_
        have hid : mRk A a = A.2.2.1.1 := fsN_none A.2.2.1.1 (fun j hj => kr j (by omega))
        exact ⟨by rw [hid]; exact congrArg (fun q => some (Value.int q)) (if_neg (Nat.lt_irrefl _)).symm, rfl, rfl⟩
      · skip
        refine x_aload_n hC d_MessageCoderModel_placeAtRank_12 rfl rfl ?_
        refine x_iload_n hC d_MessageCoderModel_placeAtRank_13 rfl rfl ?_
        refine x_callV hC kv_MessageCoderModel_88 (c_MessageCoderModel_rankOfMessage (o0 := o0) (ga := ga) (hr := hr) (hA := hA) (hp := by omega)) o0 rfl rfl (by decide) rfl rfl rfl (Nat.le_of_ble_eq_true rfl) (by decide) d_MessageCoderModel_placeAtRank_14 (fun r9 F9 z9 hp9 => ?_)
        obtain ⟨rfl, h9b, h9c⟩ := hp9
        rw [h9b, h9c]
        clear h9b h9c F9 z9
        refine x_iload_n hC d_MessageCoderModel_placeAtRank_17 rfl rfl ?_
        refine x_icmp_ne hC d_MessageCoderModel_placeAtRank_18 (tgt := 23) (by decide) (fun c_18 => ?_) (fun c_18 => ?_)
        · skip
          refine x_iinc hC d_MessageCoderModel_placeAtRank_23 rfl (v := (nI (i + 1))) (x_incN 1) (Nat.le_of_ble_eq_true rfl) (L1 := [some (.ref m), some (.int a), some (.int (nI (i + 1)))]) rfl ?_
          refine x_goto hC d_MessageCoderModel_placeAtRank_26 (tgt := 2) (by decide) ?_
          exact ih_2  (i + 1) o0 ga (by omega) (fun j hj => (Nat.lt_or_ge j i).elim (kr j) (fun q9 => by rw [show j = i by omega]; exact decide_eq_false c_18)) (by omega)
        · skip
          refine x_iload_n hC d_MessageCoderModel_placeAtRank_21 rfl rfl ?_
          refine hret _ _ _ _ _ _ _ d_MessageCoderModel_placeAtRank_22 (by decide) (by decide) rfl ?_
          have hid : mRk A a = i := fsN_hit (decide_eq_true c_18) kr A.2.2.1.1 c_9
          exact ⟨by rw [hid, plc_of c_9], rfl, rfl⟩
  exact loop_2 (A.2.2.1.1 - 0 + 1)  (0) o0 ga (by omega) (fun _ hj => absurd hj (by omega)) (by omega)

theorem d_MessageCoderModel_counts_0 : decode prog_14_method_19_code 0 = .ok (.iconst 0, 1) := by decide +kernel
theorem d_MessageCoderModel_counts_1 : decode prog_14_method_19_code 1 = .ok (.istore_n 3, 1) := by decide +kernel
theorem d_MessageCoderModel_counts_2 : decode prog_14_method_19_code 2 = .ok (.iconst 0, 1) := by decide +kernel
theorem d_MessageCoderModel_counts_3 : decode prog_14_method_19_code 3 = .ok (.istore 4, 2) := by decide +kernel
theorem d_MessageCoderModel_counts_5 : decode prog_14_method_19_code 5 = .ok (.iload 4, 2) := by decide +kernel
theorem d_MessageCoderModel_counts_7 : decode prog_14_method_19_code 7 = .ok (.aload_n 0, 1) := by decide +kernel
theorem d_MessageCoderModel_counts_8 : decode prog_14_method_19_code 8 = .ok (.iload_n 1, 1) := by decide +kernel
theorem d_MessageCoderModel_counts_9 : decode prog_14_method_19_code 9 = .ok (.iconst 2, 1) := by decide +kernel
theorem d_MessageCoderModel_counts_10 : decode prog_14_method_19_code 10 = .ok (.invokevirtual 81, 3) := by decide +kernel
theorem d_MessageCoderModel_counts_13 : decode prog_14_method_19_code 13 = .ok (.if_icmp .ge 30, 3) := by decide +kernel
theorem d_MessageCoderModel_counts_16 : decode prog_14_method_19_code 16 = .ok (.iload_n 3, 1) := by decide +kernel
theorem d_MessageCoderModel_counts_17 : decode prog_14_method_19_code 17 = .ok (.aload_n 0, 1) := by decide +kernel
theorem d_MessageCoderModel_counts_18 : decode prog_14_method_19_code 18 = .ok (.iload_n 1, 1) := by decide +kernel
theorem d_MessageCoderModel_counts_19 : decode prog_14_method_19_code 19 = .ok (.iconst 3, 1) := by decide +kernel
theorem d_MessageCoderModel_counts_20 : decode prog_14_method_19_code 20 = .ok (.iload 4, 2) := by decide +kernel
theorem d_MessageCoderModel_counts_22 : decode prog_14_method_19_code 22 = .ok (.iadd, 1) := by decide +kernel
theorem d_MessageCoderModel_counts_23 : decode prog_14_method_19_code 23 = .ok (.invokevirtual 81, 3) := by decide +kernel
theorem d_MessageCoderModel_counts_26 : decode prog_14_method_19_code 26 = .ok (.iload_n 2, 1) := by decide +kernel
theorem d_MessageCoderModel_counts_27 : decode prog_14_method_19_code 27 = .ok (.if_icmp .ne 7, 3) := by decide +kernel
theorem d_MessageCoderModel_counts_30 : decode prog_14_method_19_code 30 = .ok (.iconst 1, 1) := by decide +kernel
theorem d_MessageCoderModel_counts_31 : decode prog_14_method_19_code 31 = .ok (.goto 4, 3) := by decide +kernel
theorem d_MessageCoderModel_counts_34 : decode prog_14_method_19_code 34 = .ok (.iconst 0, 1) := by decide +kernel
theorem d_MessageCoderModel_counts_35 : decode prog_14_method_19_code 35 = .ok (.iadd, 1) := by decide +kernel
theorem d_MessageCoderModel_counts_36 : decode prog_14_method_19_code 36 = .ok (.istore_n 3, 1) := by decide +kernel
theorem d_MessageCoderModel_counts_37 : decode prog_14_method_19_code 37 = .ok (.iinc 4 1, 3) := by decide +kernel
theorem d_MessageCoderModel_counts_40 : decode prog_14_method_19_code 40 = .ok (.goto (-35), 3) := by decide +kernel
theorem d_MessageCoderModel_counts_43 : decode prog_14_method_19_code 43 = .ok (.iload_n 3, 1) := by decide +kernel
theorem d_MessageCoderModel_counts_44 : decode prog_14_method_19_code 44 = .ok (.ireturn, 1) := by decide +kernel
set_option maxHeartbeats 4000000 in
set_option maxRecDepth 20000 in
theorem c_MessageCoderModel_counts {P : xP} {F : xF} {z : Nat} {m : Nat} {th : Nat} {ch : Nat} {sv : Nat} {rs : Int32} {bm : Nat} {dm : Nat} {lz : Nat} {ty : Nat} {he : Nat} {er : Int32} {ea : Int32} {fa : Int32} {cn : Nat} {g : Nat → Nat} {A : aS} {p : Nat} {s : Nat} (o0 : F (m) = some (.inl (10, [.int (nI (th)), .ref (m + 1), .int (nI (ch)), .int (nI (sv)), .int rs, .ref (m + 2), .ref (m + 3), .ref (m + 4), .ref (m + 5), .ref (m + 6), .int (nI (bm)), .ref (m + 7), .int (nI (dm)), .ref (m + 8), .ref (m + 9), .int (nI (lz)), .ref (m + 10), .int (nI (ty)), .int (nI (he)), .int er, .int ea, .int fa, .ref (m + 11), .int (nI (cn))]))) (ga : F (m + 1) = some (.inr (0, 4730, fun b9 => .int (nI (g b9))))) (hr : rRow g A) (hA : aInv A) (hp : p < A.2.2.1.1) (hs : s < 1000) : xM P xy_MessageCoderModel_counts [.ref m, .int (nI (p)), .int (nI (s))] F (z) 0 0 (fun r9 F9 z9 => r9 = some (.int (nI (tmOf (A.2.2.1.2.2 p).2.2.2 (97 + s) (A.2.2.1.2.2 p).2.2.1))) ∧ F9 = F ∧ z9 = z) := by
  refine xM_i .int rfl (Nat.le_of_ble_eq_true rfl) (L0 := [some (.ref m), some (.int (nI (p))), some (.int (nI (s))), none, none]) rfl rfl fun Θ hC hret => ?_
  obtain ⟨⟨q0, q1, q2, q3, q4, q5, q6, q7, q9⟩, qw, qd, qm, qf, qx, qb⟩ := id hr
  obtain ⟨⟨u1, u2, u3, u4, u5⟩, uw, ud, um, uo, ut, ux, ub, un9⟩ := id hA
  have hlp := (um p hp).2.2.1
  refine x_iconst hC d_MessageCoderModel_counts_0 (v := nI 0) (by decide) ?_
  refine x_istore_n hC d_MessageCoderModel_counts_1 rfl (Nat.le_of_ble_eq_true rfl) (L1 := [some (.ref m), some (.int (nI (p))), some (.int (nI (s))), some (.int (nI 0)), none]) rfl ?_
  refine x_iconst hC d_MessageCoderModel_counts_2 (v := nI 0) (by decide) ?_
  refine x_istore hC d_MessageCoderModel_counts_3 (Nat.le_of_ble_eq_true rfl) (L1 := [some (.ref m), some (.int (nI (p))), some (.int (nI (s))), some (.int (nI 0)), some (.int (nI 0))]) rfl ?_
  have loop_5 : ∀ (m9 : Nat) (i : Nat) (n1 : Nat), (F (m) = some (.inl (10, [.int (nI (th)), .ref (m + 1), .int (nI (ch)), .int (nI (sv)), .int rs, .ref (m + 2), .ref (m + 3), .ref (m + 4), .ref (m + 5), .ref (m + 6), .int (nI (bm)), .ref (m + 7), .int (nI (dm)), .ref (m + 8), .ref (m + 9), .int (nI (lz)), .ref (m + 10), .int (nI (ty)), .int (nI (he)), .int er, .int ea, .int fa, .ref (m + 11), .int (nI (cn))]))) → (F (m + 1) = some (.inr (0, 4730, fun b9 => .int (nI (g b9))))) → (i ≤ (A.2.2.1.2.2 p).2.2.1) → (n1 = tmOf (A.2.2.1.2.2 p).2.2.2 (97 + s) i) → ((A.2.2.1.2.2 p).2.2.1 - i < m9) → xX P Θ 5 [some (.ref m), some (.int (nI (p))), some (.int (nI (s))), some (.int (nI (n1))), some (.int (nI (i)))] [] F (z) 0 0 := by
    intro m9
    induction m9 with
    | zero => intros; omega
    | succ m9 ih_5 =>
      intro  i n1 o0 ga hi kq hm_5
      have hn1 : n1 ≤ i := by rw [kq]; exact tmOf_le _ _ i
      refine x_iload hC d_MessageCoderModel_counts_5 rfl ?_
      refine x_aload_n hC d_MessageCoderModel_counts_7 rfl rfl ?_
      refine x_iload_n hC d_MessageCoderModel_counts_8 rfl rfl ?_
      refine x_iconst hC d_MessageCoderModel_counts_9 (v := nI 2) (by decide) ?_
      refine x_callV hC kv_MessageCoderModel_81 (c_MessageCoderModel_m (o0 := o0) (ga := ga) (hpw := by omega)) o0 rfl rfl (by decide) rfl rfl rfl (Nat.le_of_ble_eq_true rfl) (by decide) d_MessageCoderModel_counts_10 (fun r9 F9 z9 hp9 => ?_)
      obtain ⟨rfl, h9b, h9c⟩ := hp9
      rw [h9b, h9c]
      clear h9b h9c F9 z9
      refine x_top (v := (nI ((A.2.2.1.2.2 p).2.2.1))) (congrArg nI (qm p (by omega)).2.2.1) ?_
      refine x_icmpN_ge hC d_MessageCoderModel_counts_13 (tgt := 43) (by decide) (by omega) (by omega) (fun c_13 => ?_) (fun c_13 => ?_)
      · skip
        refine x_iload_n hC d_MessageCoderModel_counts_43 rfl rfl ?_
        exact hret _ _ _ _ _ _ _ d_MessageCoderModel_counts_44 (by decide) (by decide) rfl (⟨by rw [kq, show i = (A.2.2.1.2.2 p).2.2.1 by omega], rfl, rfl⟩)
      · skip
        have hsm := (qm p hp).2.2.2 i (by omega)
        have hsy := (um p hp).2.2.2 i (by omega)
        have hsm : g (34 + 19 * p + (3 + i)) + 97 = (A.2.2.1.2.2 p).2.2.2 i := hsm
        refine x_iload_n hC d_MessageCoderModel_counts_16 rfl rfl ?_
        refine x_aload_n hC d_MessageCoderModel_counts_17 rfl rfl ?_
        refine x_iload_n hC d_MessageCoderModel_counts_18 rfl rfl ?_
        refine x_iconst hC d_MessageCoderModel_counts_19 (v := nI 3) (by decide) ?_
        refine x_iload hC d_MessageCoderModel_counts_20 rfl ?_
        refine x_iadd hC d_MessageCoderModel_counts_22 (v := (nI (3 + i))) (x_addN (by omega)) ?_
        refine x_callV hC kv_MessageCoderModel_81 (c_MessageCoderModel_m (o0 := o0) (ga := ga) (hpw := by omega)) o0 rfl rfl (by decide) rfl rfl rfl (Nat.le_of_ble_eq_true rfl) (by decide) d_MessageCoderModel_counts_23 (fun r9 F9 z9 hp9 => ?_)
        obtain ⟨rfl, h9b, h9c⟩ := hp9
        rw [h9b, h9c]
        clear h9b h9c F9 z9
        refine x_iload_n hC d_MessageCoderModel_counts_26 rfl rfl ?_
        refine x_icmpN_ne hC d_MessageCoderModel_counts_27 (tgt := 34) (by decide) (by omega) (by omega) (fun c_27 => ?_) (fun c_27 => ?_)
        · skip
          refine x_iconst hC d_MessageCoderModel_counts_34 (v := nI 0) (by decide) ?_
          refine x_iadd hC d_MessageCoderModel_counts_35 (v := (nI (n1))) (x_addN (by omega)) ?_
          refine x_istore_n hC d_MessageCoderModel_counts_36 rfl (Nat.le_of_ble_eq_true rfl) (L1 := [some (.ref m), some (.int (nI (p))), some (.int (nI (s))), some (.int (nI (n1))), some (.int (nI (i)))]) rfl ?_
          refine x_iinc hC d_MessageCoderModel_counts_37 rfl (v := (nI (i + 1))) (x_incN 1) (Nat.le_of_ble_eq_true rfl) (L1 := [some (.ref m), some (.int (nI (p))), some (.int (nI (s))), some (.int (nI (n1))), some (.int (nI (i + 1)))]) rfl ?_
          refine x_goto hC d_MessageCoderModel_counts_40 (tgt := 5) (by decide) ?_
          exact ih_5  (i + 1) (n1) o0 ga (by omega) (by first | (rw [kq, tmOf, if_pos (by omega)]; done) | (rw [kq, tmOf, if_neg (by omega)])) (by omega)
        · skip
          refine x_iconst hC d_MessageCoderModel_counts_30 (v := nI 1) (by decide) ?_
          refine x_goto hC d_MessageCoderModel_counts_31 (tgt := 35) (by decide) ?_
          refine x_iadd hC d_MessageCoderModel_counts_35 (v := (nI (n1 + 1))) (x_addN (by omega)) ?_
          refine x_istore_n hC d_MessageCoderModel_counts_36 rfl (Nat.le_of_ble_eq_true rfl) (L1 := [some (.ref m), some (.int (nI (p))), some (.int (nI (s))), some (.int (nI (n1 + 1))), some (.int (nI (i)))]) rfl ?_
          refine x_iinc hC d_MessageCoderModel_counts_37 rfl (v := (nI (i + 1))) (x_incN 1) (Nat.le_of_ble_eq_true rfl) (L1 := [some (.ref m), some (.int (nI (p))), some (.int (nI (s))), some (.int (nI (n1 + 1))), some (.int (nI (i + 1)))]) rfl ?_
          refine x_goto hC d_MessageCoderModel_counts_40 (tgt := 5) (by decide) ?_
          exact ih_5  (i + 1) (n1 + 1) o0 ga (by omega) (by first | (rw [kq, tmOf, if_pos (by omega)]; done) | (rw [kq, tmOf, if_neg (by omega)])) (by omega)
  exact loop_5 ((A.2.2.1.2.2 p).2.2.1 - 0 + 1)  (0) (0) o0 ga (by omega) (rfl) (by omega)

theorem d_MessageCoderModel_bitsOf_0 : decode prog_14_method_20_code 0 = .ok (.aload_n 0, 1) := by decide +kernel
theorem d_MessageCoderModel_bitsOf_1 : decode prog_14_method_20_code 1 = .ok (.invokevirtual 91, 3) := by decide +kernel
theorem d_MessageCoderModel_bitsOf_4 : decode prog_14_method_20_code 4 = .ok (.aload_n 0, 1) := by decide +kernel
theorem d_MessageCoderModel_bitsOf_5 : decode prog_14_method_20_code 5 = .ok (.iconst 0, 1) := by decide +kernel
theorem d_MessageCoderModel_bitsOf_6 : decode prog_14_method_20_code 6 = .ok (.putfield 94, 3) := by decide +kernel
theorem d_MessageCoderModel_bitsOf_9 : decode prog_14_method_20_code 9 = .ok (.iconst 0, 1) := by decide +kernel
theorem d_MessageCoderModel_bitsOf_10 : decode prog_14_method_20_code 10 = .ok (.istore_n 2, 1) := by decide +kernel
theorem d_MessageCoderModel_bitsOf_11 : decode prog_14_method_20_code 11 = .ok (.iload_n 2, 1) := by decide +kernel
theorem d_MessageCoderModel_bitsOf_12 : decode prog_14_method_20_code 12 = .ok (.aload_n 0, 1) := by decide +kernel
theorem d_MessageCoderModel_bitsOf_13 : decode prog_14_method_20_code 13 = .ok (.iload_n 1, 1) := by decide +kernel
theorem d_MessageCoderModel_bitsOf_14 : decode prog_14_method_20_code 14 = .ok (.iconst 2, 1) := by decide +kernel
theorem d_MessageCoderModel_bitsOf_15 : decode prog_14_method_20_code 15 = .ok (.invokevirtual 81, 3) := by decide +kernel
theorem d_MessageCoderModel_bitsOf_18 : decode prog_14_method_20_code 18 = .ok (.if_icmp .ge 69, 3) := by decide +kernel
theorem d_MessageCoderModel_bitsOf_21 : decode prog_14_method_20_code 21 = .ok (.aload_n 0, 1) := by decide +kernel
theorem d_MessageCoderModel_bitsOf_22 : decode prog_14_method_20_code 22 = .ok (.iload_n 1, 1) := by decide +kernel
theorem d_MessageCoderModel_bitsOf_23 : decode prog_14_method_20_code 23 = .ok (.iconst 3, 1) := by decide +kernel
theorem d_MessageCoderModel_bitsOf_24 : decode prog_14_method_20_code 24 = .ok (.iload_n 2, 1) := by decide +kernel
theorem d_MessageCoderModel_bitsOf_25 : decode prog_14_method_20_code 25 = .ok (.iadd, 1) := by decide +kernel
theorem d_MessageCoderModel_bitsOf_26 : decode prog_14_method_20_code 26 = .ok (.invokevirtual 81, 3) := by decide +kernel
theorem d_MessageCoderModel_bitsOf_29 : decode prog_14_method_20_code 29 = .ok (.istore_n 3, 1) := by decide +kernel
theorem d_MessageCoderModel_bitsOf_30 : decode prog_14_method_20_code 30 = .ok (.aload_n 0, 1) := by decide +kernel
theorem d_MessageCoderModel_bitsOf_31 : decode prog_14_method_20_code 31 = .ok (.getfield 13, 3) := by decide +kernel
theorem d_MessageCoderModel_bitsOf_34 : decode prog_14_method_20_code 34 = .ok (.iload_n 3, 1) := by decide +kernel
theorem d_MessageCoderModel_bitsOf_35 : decode prog_14_method_20_code 35 = .ok (.iaload, 1) := by decide +kernel
theorem d_MessageCoderModel_bitsOf_36 : decode prog_14_method_20_code 36 = .ok (.iconst 1, 1) := by decide +kernel
theorem d_MessageCoderModel_bitsOf_37 : decode prog_14_method_20_code 37 = .ok (.isub, 1) := by decide +kernel
theorem d_MessageCoderModel_bitsOf_38 : decode prog_14_method_20_code 38 = .ok (.istore 4, 2) := by decide +kernel
theorem d_MessageCoderModel_bitsOf_40 : decode prog_14_method_20_code 40 = .ok (.iload 4, 2) := by decide +kernel
theorem d_MessageCoderModel_bitsOf_42 : decode prog_14_method_20_code 42 = .ok (.ifCond .lt 39, 3) := by decide +kernel
theorem d_MessageCoderModel_bitsOf_45 : decode prog_14_method_20_code 45 = .ok (.aload_n 0, 1) := by decide +kernel
theorem d_MessageCoderModel_bitsOf_46 : decode prog_14_method_20_code 46 = .ok (.getfield 25, 3) := by decide +kernel
theorem d_MessageCoderModel_bitsOf_49 : decode prog_14_method_20_code 49 = .ok (.aload_n 0, 1) := by decide +kernel
theorem d_MessageCoderModel_bitsOf_50 : decode prog_14_method_20_code 50 = .ok (.getfield 94, 3) := by decide +kernel
theorem d_MessageCoderModel_bitsOf_53 : decode prog_14_method_20_code 53 = .ok (.aload_n 0, 1) := by decide +kernel
theorem d_MessageCoderModel_bitsOf_54 : decode prog_14_method_20_code 54 = .ok (.getfield 16, 3) := by decide +kernel
theorem d_MessageCoderModel_bitsOf_57 : decode prog_14_method_20_code 57 = .ok (.iload_n 3, 1) := by decide +kernel
theorem d_MessageCoderModel_bitsOf_58 : decode prog_14_method_20_code 58 = .ok (.iaload, 1) := by decide +kernel
theorem d_MessageCoderModel_bitsOf_59 : decode prog_14_method_20_code 59 = .ok (.iload 4, 2) := by decide +kernel
theorem d_MessageCoderModel_bitsOf_61 : decode prog_14_method_20_code 61 = .ok (.ishr, 1) := by decide +kernel
theorem d_MessageCoderModel_bitsOf_62 : decode prog_14_method_20_code 62 = .ok (.iconst 1, 1) := by decide +kernel
theorem d_MessageCoderModel_bitsOf_63 : decode prog_14_method_20_code 63 = .ok (.iand, 1) := by decide +kernel
theorem d_MessageCoderModel_bitsOf_64 : decode prog_14_method_20_code 64 = .ok (.iastore, 1) := by decide +kernel
theorem d_MessageCoderModel_bitsOf_65 : decode prog_14_method_20_code 65 = .ok (.aload_n 0, 1) := by decide +kernel
theorem d_MessageCoderModel_bitsOf_66 : decode prog_14_method_20_code 66 = .ok (.dup, 1) := by decide +kernel
theorem d_MessageCoderModel_bitsOf_67 : decode prog_14_method_20_code 67 = .ok (.getfield 94, 3) := by decide +kernel
theorem d_MessageCoderModel_bitsOf_70 : decode prog_14_method_20_code 70 = .ok (.iconst 1, 1) := by decide +kernel
theorem d_MessageCoderModel_bitsOf_71 : decode prog_14_method_20_code 71 = .ok (.iadd, 1) := by decide +kernel
theorem d_MessageCoderModel_bitsOf_72 : decode prog_14_method_20_code 72 = .ok (.putfield 94, 3) := by decide +kernel
theorem d_MessageCoderModel_bitsOf_75 : decode prog_14_method_20_code 75 = .ok (.iinc 4 (-1), 3) := by decide +kernel
theorem d_MessageCoderModel_bitsOf_78 : decode prog_14_method_20_code 78 = .ok (.goto (-38), 3) := by decide +kernel
theorem d_MessageCoderModel_bitsOf_81 : decode prog_14_method_20_code 81 = .ok (.iinc 2 1, 3) := by decide +kernel
theorem d_MessageCoderModel_bitsOf_84 : decode prog_14_method_20_code 84 = .ok (.goto (-73), 3) := by decide +kernel
theorem d_MessageCoderModel_bitsOf_87 : decode prog_14_method_20_code 87 = .ok (.return_, 1) := by decide +kernel
set_option maxHeartbeats 4000000 in
set_option maxRecDepth 20000 in
theorem c_MessageCoderModel_bitsOf {P : xP} {F : xF} {z : Nat} {m : Nat} {th : Nat} {ch : Nat} {sv : Nat} {rs : Int32} {bm : Nat} {dm : Nat} {lz : Nat} {ty : Nat} {he : Nat} {er : Int32} {ea : Int32} {fa : Int32} {cn : Nat} {g : Nat → Nat} {A : aS} {p : Nat} {l0 : Nat → Nat} {v0 : Nat → Nat} {r0 : Nat → Nat} {w0 : Nat → Nat} {b0 : Nat → Nat} (o0 : F (m) = some (.inl (10, [.int (nI (th)), .ref (m + 1), .int (nI (ch)), .int (nI (sv)), .int rs, .ref (m + 2), .ref (m + 3), .ref (m + 4), .ref (m + 5), .ref (m + 6), .int (nI (bm)), .ref (m + 7), .int (nI (dm)), .ref (m + 8), .ref (m + 9), .int (nI (lz)), .ref (m + 10), .int (nI (ty)), .int (nI (he)), .int er, .int ea, .int fa, .ref (m + 11), .int (nI (cn))]))) (ga : F (m + 1) = some (.inr (0, 4730, fun b9 => .int (nI (g b9))))) (h2 : F (m + 2) = some (.inr (0, 8, fun b9 => .int (nI (l0 b9))))) (h3 : F (m + 3) = some (.inr (0, 8, fun b9 => .int (nI (v0 b9))))) (h4 : F (m + 4) = some (.inr (0, 8, fun b9 => .int (nI (r0 b9))))) (h5 : F (m + 5) = some (.inr (0, 8, fun b9 => .int (nI (w0 b9))))) (h6 : F (m + 6) = some (.inr (0, 112, fun b9 => .int (nI (b0 b9))))) (hr : rRow g A) (hA : aInv A) (hp : p < A.2.2.1.1) : xM P xy_MessageCoderModel_bitsOf [.ref m, .int (nI (p))] F (z) 0 0 (fun r9 F9 z9 => ∃ ln1 : Nat → Nat, ∃ vl1 : Nat → Nat, ∃ gr1 : Nat → Nat, ∃ gw1 : Nat → Nat, ∃ b1 : Nat → Nat, r9 = none ∧ z9 = z ∧ F9 (m) = some (.inl (10, [.int (nI (th)), .ref (m + 1), .int (nI (ch)), .int (nI (sv)), .int rs, .ref (m + 2), .ref (m + 3), .ref (m + 4), .ref (m + 5), .ref (m + 6), .int (nI ((bitsN (hLen A.1) (A.2.2.1.2.2 p).2.2.2 (A.2.2.1.2.2 p).2.2.1))), .ref (m + 7), .int (nI (dm)), .ref (m + 8), .ref (m + 9), .int (nI (lz)), .ref (m + 10), .int (nI (ty)), .int (nI (he)), .int er, .int ea, .int fa, .ref (m + 11), .int (nI (cn))])) ∧ F9 (m + 1) = some (.inr (0, 4730, fun b9 => .int (nI (g b9)))) ∧ F9 (m + 2) = some (.inr (0, 8, fun b9 => .int (nI (ln1 b9)))) ∧ F9 (m + 3) = some (.inr (0, 8, fun b9 => .int (nI (vl1 b9)))) ∧ F9 (m + 4) = some (.inr (0, 8, fun b9 => .int (nI (gr1 b9)))) ∧ F9 (m + 5) = some (.inr (0, 8, fun b9 => .int (nI (gw1 b9)))) ∧ F9 (m + 6) = some (.inr (0, 112, fun b9 => .int (nI (b1 b9)))) ∧ (∀ j, j < 8 → ln1 j = hLen A.1 j ∧ vl1 j = hVal (hLen A.1) j) ∧ (∀ j, j < bitsN (hLen A.1) (A.2.2.1.2.2 p).2.2.2 (A.2.2.1.2.2 p).2.2.1 → b1 j = splB (hLen A.1) (hVal (hLen A.1)) (A.2.2.1.2.2 p).2.2.2 (A.2.2.1.2.2 p).2.2.1 j) ∧ (∀ a9 : Nat, (a9 < m ∨ m + 1 ≤ a9) → (a9 < m + 2 ∨ m + 2 + 5 ≤ a9) → F9 a9 = F a9)) := by
  refine xM_v rfl (Nat.le_of_ble_eq_true rfl) (L0 := [some (.ref m), some (.int (nI (p))), none, none, none]) rfl rfl fun Θ hC hin hret => ?_
  have hag : ∀ a9 : Nat, (a9 < m ∨ m + 1 ≤ a9) → (a9 < m + 2 ∨ m + 2 + 5 ≤ a9) → F a9 = F a9 := fun a9 _ _ => rfl
  obtain ⟨⟨q0, q1, q2, q3, q4, q5, q6, q7, q9⟩, qw, qd, qm, qf, qx, qb⟩ := id hr
  obtain ⟨⟨u1, u2, u3, u4, u5⟩, uw, ud, um, uo, ut, ux, ub, un9⟩ := id hA
  have hlp := (um p hp).2.2.1
  refine x_aload_n hC d_MessageCoderModel_bitsOf_0 rfl rfl ?_
  refine x_callV hC kv_MessageCoderModel_91 (c_MessageCoderModel_codes (o0 := o0) (ga := ga) (h2 := h2) (h3 := h3) (h4 := h4) (h5 := h5) (hw := qw) (hw9 := fun j hj => (uw j hj).2) (w := A.1)) o0 rfl rfl (by decide) rfl rfl rfl (Nat.le_of_ble_eq_true rfl) (by decide) d_MessageCoderModel_bitsOf_1 (fun r9 F9 z9 hp9 => ?_)
  obtain ⟨ln1_1, vl1_1, gr1_1, gw1_1, rfl, h9c, j0, j1, j2, j3, j4, j5, pk_1, hag9⟩ := hp9
  rw [h9c]
  clear h9c z9
  generalize F9 = F1 at *
  have h6 : F1 (m + 6) = some (.inr (0, 112, fun b9 => .int (nI (b0 b9)))) := (hag9 _ (by omega)).trans h6
  have o0 : F1 (m) = some (.inl (10, [.int (nI (th)), .ref (m + 1), .int (nI (ch)), .int (nI (sv)), .int rs, .ref (m + 2), .ref (m + 3), .ref (m + 4), .ref (m + 5), .ref (m + 6), .int (nI (bm)), .ref (m + 7), .int (nI (dm)), .ref (m + 8), .ref (m + 9), .int (nI (lz)), .ref (m + 10), .int (nI (ty)), .int (nI (he)), .int er, .int ea, .int fa, .ref (m + 11), .int (nI (cn))])) := j0
  have ga : F1 (m + 1) = some (.inr (0, 4730, fun b9 => .int (nI (g b9)))) := j1
  have h2 : F1 (m + 2) = some (.inr (0, 8, fun b9 => .int (nI (ln1_1 b9)))) := j2
  have h3 : F1 (m + 3) = some (.inr (0, 8, fun b9 => .int (nI (vl1_1 b9)))) := j3
  have h4 : F1 (m + 4) = some (.inr (0, 8, fun b9 => .int (nI (gr1_1 b9)))) := j4
  have h5 : F1 (m + 5) = some (.inr (0, 8, fun b9 => .int (nI (gw1_1 b9)))) := j5
  have hag : ∀ a9 : Nat, (a9 < m ∨ m + 1 ≤ a9) → (a9 < m + 2 ∨ m + 2 + 5 ≤ a9) → F1 a9 = F a9 := fun a9 q0 q1 => (hag9 a9 (by omega)).trans (hag a9 q0 q1)
  have hg_1 := hag9
  clear hag9
  refine x_aload_n hC d_MessageCoderModel_bitsOf_4 rfl rfl ?_
  refine x_iconst hC d_MessageCoderModel_bitsOf_5 (v := nI 0) (by decide) ?_
  refine x_putf hC kf_MessageCoderModel_94 o0 (Nat.le_of_ble_eq_true rfl) rfl rfl d_MessageCoderModel_bitsOf_6 (fs1 := [.int (nI (th)), .ref (m + 1), .int (nI (ch)), .int (nI (sv)), .int rs, .ref (m + 2), .ref (m + 3), .ref (m + 4), .ref (m + 5), .ref (m + 6), .int (nI 0), .ref (m + 7), .int (nI (dm)), .ref (m + 8), .ref (m + 9), .int (nI (lz)), .ref (m + 10), .int (nI (ty)), .int (nI (he)), .int er, .int ea, .int fa, .ref (m + 11), .int (nI (cn))]) rfl ?_
  generalize e2 : xup F1 (m) (.inl (10, [.int (nI (th)), .ref (m + 1), .int (nI (ch)), .int (nI (sv)), .int rs, .ref (m + 2), .ref (m + 3), .ref (m + 4), .ref (m + 5), .ref (m + 6), .int (nI 0), .ref (m + 7), .int (nI (dm)), .ref (m + 8), .ref (m + 9), .int (nI (lz)), .ref (m + 10), .int (nI (ty)), .int (nI (he)), .int er, .int ea, .int fa, .ref (m + 11), .int (nI (cn))])) = F2
  have h6 : F2 (m + 6) = some (.inr (0, 112, fun b9 => .int (nI (b0 b9)))) := by rw [← e2]; exact (xup_ne (by omega)).trans h6
  have o0 : F2 (m) = some (.inl (10, [.int (nI (th)), .ref (m + 1), .int (nI (ch)), .int (nI (sv)), .int rs, .ref (m + 2), .ref (m + 3), .ref (m + 4), .ref (m + 5), .ref (m + 6), .int (nI 0), .ref (m + 7), .int (nI (dm)), .ref (m + 8), .ref (m + 9), .int (nI (lz)), .ref (m + 10), .int (nI (ty)), .int (nI (he)), .int er, .int ea, .int fa, .ref (m + 11), .int (nI (cn))])) := by rw [← e2]; exact xup_eq
  have ga : F2 (m + 1) = some (.inr (0, 4730, fun b9 => .int (nI (g b9)))) := by rw [← e2]; exact (xup_ne (by omega)).trans ga
  have h2 : F2 (m + 2) = some (.inr (0, 8, fun b9 => .int (nI (ln1_1 b9)))) := by rw [← e2]; exact (xup_ne (by omega)).trans h2
  have h3 : F2 (m + 3) = some (.inr (0, 8, fun b9 => .int (nI (vl1_1 b9)))) := by rw [← e2]; exact (xup_ne (by omega)).trans h3
  have h4 : F2 (m + 4) = some (.inr (0, 8, fun b9 => .int (nI (gr1_1 b9)))) := by rw [← e2]; exact (xup_ne (by omega)).trans h4
  have h5 : F2 (m + 5) = some (.inr (0, 8, fun b9 => .int (nI (gw1_1 b9)))) := by rw [← e2]; exact (xup_ne (by omega)).trans h5
  have hag : ∀ a9 : Nat, (a9 < m ∨ m + 1 ≤ a9) → (a9 < m + 2 ∨ m + 2 + 5 ≤ a9) → F2 a9 = F a9 := fun a9 q0 q1 => by rw [← e2]; exact (xup_ne (by omega)).trans (hag a9 q0 q1)
  refine x_iconst hC d_MessageCoderModel_bitsOf_9 (v := nI 0) (by decide) ?_
  refine x_istore_n hC d_MessageCoderModel_bitsOf_10 rfl (Nat.le_of_ble_eq_true rfl) (L1 := [some (.ref m), some (.int (nI (p))), some (.int (nI 0)), none, none]) rfl ?_
  have loop_11 : ∀ (m9 : Nat) (Fh11 : xF) (i : Nat) (bm1 : Nat) (b1 : Nat → Nat), (Fh11 (m) = some (.inl (10, [.int (nI (th)), .ref (m + 1), .int (nI (ch)), .int (nI (sv)), .int rs, .ref (m + 2), .ref (m + 3), .ref (m + 4), .ref (m + 5), .ref (m + 6), .int (nI (bm1)), .ref (m + 7), .int (nI (dm)), .ref (m + 8), .ref (m + 9), .int (nI (lz)), .ref (m + 10), .int (nI (ty)), .int (nI (he)), .int er, .int ea, .int fa, .ref (m + 11), .int (nI (cn))]))) → (Fh11 (m + 1) = some (.inr (0, 4730, fun b9 => .int (nI (g b9))))) → (Fh11 (m + 2) = some (.inr (0, 8, fun b9 => .int (nI (ln1_1 b9))))) → (Fh11 (m + 3) = some (.inr (0, 8, fun b9 => .int (nI (vl1_1 b9))))) → (Fh11 (m + 4) = some (.inr (0, 8, fun b9 => .int (nI (gr1_1 b9))))) → (Fh11 (m + 5) = some (.inr (0, 8, fun b9 => .int (nI (gw1_1 b9))))) → (Fh11 (m + 6) = some (.inr (0, 112, fun b9 => .int (nI (b1 b9))))) → (∀ a9 : Nat, (a9 < m ∨ m + 1 ≤ a9) → (a9 < m + 2 ∨ m + 2 + 5 ≤ a9) → Fh11 a9 = F a9) → (i ≤ (A.2.2.1.2.2 p).2.2.1) → (bm1 = bitsN (hLen A.1) (A.2.2.1.2.2 p).2.2.2 i) → (∀ j, j < bm1 → b1 j = splB (hLen A.1) (hVal (hLen A.1)) (A.2.2.1.2.2 p).2.2.2 i j) → ((A.2.2.1.2.2 p).2.2.1 - i < m9) → xX P Θ 11 [some (.ref m), some (.int (nI (p))), some (.int (nI (i))), none, none] [] Fh11 (z) 0 0 := by
    intro m9
    induction m9 with
    | zero => intros; omega
    | succ m9 ih_11 =>
      intro Fh11 i bm1 b1 o0 ga h2 h3 h4 h5 h6 hag hi kbm kbb hm_11
      have hbn0 := bitsN_le (ln := hLen A.1) (fun j hj => hLen_7 A.1 hj) (A.2.2.1.2.2 p).2.2.2 i
      have hbm1 : bm1 ≤ 112 := by omega
      refine x_iload_n hC d_MessageCoderModel_bitsOf_11 rfl rfl ?_
      refine x_aload_n hC d_MessageCoderModel_bitsOf_12 rfl rfl ?_
      refine x_iload_n hC d_MessageCoderModel_bitsOf_13 rfl rfl ?_
      refine x_iconst hC d_MessageCoderModel_bitsOf_14 (v := nI 2) (by decide) ?_
      refine x_callV hC kv_MessageCoderModel_81 (c_MessageCoderModel_m (o0 := o0) (ga := ga) (hpw := by omega)) o0 rfl rfl (by decide) rfl rfl rfl (Nat.le_of_ble_eq_true rfl) (by decide) d_MessageCoderModel_bitsOf_15 (fun r9 F9 z9 hp9 => ?_)
      obtain ⟨rfl, h9b, h9c⟩ := hp9
      rw [h9b, h9c]
      clear h9b h9c F9 z9
      refine x_top (v := (nI ((A.2.2.1.2.2 p).2.2.1))) (congrArg nI (qm p (by omega)).2.2.1) ?_
      refine x_icmpN_ge hC d_MessageCoderModel_bitsOf_18 (tgt := 87) (by decide) (by omega) (by omega) (fun c_18 => ?_) (fun c_18 => ?_)
      · skip
        refine hret _ _ _ _ _ _ d_MessageCoderModel_bitsOf_87 (by decide) (by decide) ?_
        obtain rfl : i = (A.2.2.1.2.2 p).2.2.1 := by omega
        exact ⟨_, _, _, _, _, rfl, rfl, by rw [← kbm]; exact o0, ga, h2, h3, h4, h5, h6, pk_1, fun j hj => kbb j (by rw [kbm]; exact hj), hag⟩
      · skip
        have hsm : g (34 + 19 * p + (3 + i)) + 97 = (A.2.2.1.2.2 p).2.2.2 i := (qm p hp).2.2.2 i (by omega)
        have hsy := (um p hp).2.2.2 i (by omega)
        have hk9 := pk_1 ((A.2.2.1.2.2 p).2.2.2 i - 97) (by omega)
        have hl7 : (hLen A.1 ((A.2.2.1.2.2 p).2.2.2 i - 97)) ≤ 7 := hLen_7 A.1 (by omega)
        have hv9 : (hVal (hLen A.1) ((A.2.2.1.2.2 p).2.2.2 i - 97)) ≤ 1024 := hVal_bd hl7
        have hbs : bitsN (hLen A.1) (A.2.2.1.2.2 p).2.2.2 (i + 1) = bitsN (hLen A.1) (A.2.2.1.2.2 p).2.2.2 i + (hLen A.1 ((A.2.2.1.2.2 p).2.2.2 i - 97)) := congrArg (fun q => bitsN (hLen A.1) (A.2.2.1.2.2 p).2.2.2 i + q) (lenF_sy hsy)
        have hbn := bitsN_le (ln := hLen A.1) (fun j hj => hLen_7 A.1 hj) (A.2.2.1.2.2 p).2.2.2 i
        refine x_aload_n hC d_MessageCoderModel_bitsOf_21 rfl rfl ?_
        refine x_iload_n hC d_MessageCoderModel_bitsOf_22 rfl rfl ?_
        refine x_iconst hC d_MessageCoderModel_bitsOf_23 (v := nI 3) (by decide) ?_
        refine x_iload_n hC d_MessageCoderModel_bitsOf_24 rfl rfl ?_
        refine x_iadd hC d_MessageCoderModel_bitsOf_25 (v := (nI (3 + i))) (x_addN (by omega)) ?_
        refine x_callV hC kv_MessageCoderModel_81 (c_MessageCoderModel_m (o0 := o0) (ga := ga) (hpw := by omega)) o0 rfl rfl (by decide) rfl rfl rfl (Nat.le_of_ble_eq_true rfl) (by decide) d_MessageCoderModel_bitsOf_26 (fun r9 F9 z9 hp9 => ?_)
        obtain ⟨rfl, h9b, h9c⟩ := hp9
        rw [h9b, h9c]
        clear h9b h9c F9 z9
        refine x_top (v := (nI ((A.2.2.1.2.2 p).2.2.2 i - 97))) (congrArg nI (by omega)) ?_
        refine x_istore_n hC d_MessageCoderModel_bitsOf_29 rfl (Nat.le_of_ble_eq_true rfl) (L1 := [some (.ref m), some (.int (nI (p))), some (.int (nI (i))), some (.int (nI ((A.2.2.1.2.2 p).2.2.2 i - 97))), none]) rfl ?_
        refine x_aload_n hC d_MessageCoderModel_bitsOf_30 rfl rfl ?_
        refine x_getf hC kf_MessageCoderModel_13 o0 rfl d_MessageCoderModel_bitsOf_31 ?_
        refine x_iload_n hC d_MessageCoderModel_bitsOf_34 rfl rfl ?_
        refine x_iald hC h2 (j := (A.2.2.1.2.2 p).2.2.2 i - 97) ⟨rfl, by omega, by omega⟩ (x := nI ((hLen A.1 ((A.2.2.1.2.2 p).2.2.2 i - 97)))) (congrArg nI hk9.1) d_MessageCoderModel_bitsOf_35 ?_
        refine x_iconst hC d_MessageCoderModel_bitsOf_36 (v := nI 1) (by decide) ?_
        refine x_isub hC d_MessageCoderModel_bitsOf_37 (v := (nI (hLen A.1 ((A.2.2.1.2.2 p).2.2.2 i - 97)) - nI (0 + 1))) rfl ?_
        refine x_istore hC d_MessageCoderModel_bitsOf_38 (Nat.le_of_ble_eq_true rfl) (L1 := [some (.ref m), some (.int (nI (p))), some (.int (nI (i))), some (.int (nI ((A.2.2.1.2.2 p).2.2.2 i - 97))), some (.int (nI (hLen A.1 ((A.2.2.1.2.2 p).2.2.2 i - 97)) - nI (0 + 1)))]) rfl ?_
        have loop_40 : ∀ (m9 : Nat) (Fh40 : xF) (t : Nat) (bm2 : Nat) (b2 : Nat → Nat), (Fh40 (m) = some (.inl (10, [.int (nI (th)), .ref (m + 1), .int (nI (ch)), .int (nI (sv)), .int rs, .ref (m + 2), .ref (m + 3), .ref (m + 4), .ref (m + 5), .ref (m + 6), .int (nI (bm2)), .ref (m + 7), .int (nI (dm)), .ref (m + 8), .ref (m + 9), .int (nI (lz)), .ref (m + 10), .int (nI (ty)), .int (nI (he)), .int er, .int ea, .int fa, .ref (m + 11), .int (nI (cn))]))) → (Fh40 (m + 1) = some (.inr (0, 4730, fun b9 => .int (nI (g b9))))) → (Fh40 (m + 2) = some (.inr (0, 8, fun b9 => .int (nI (ln1_1 b9))))) → (Fh40 (m + 3) = some (.inr (0, 8, fun b9 => .int (nI (vl1_1 b9))))) → (Fh40 (m + 4) = some (.inr (0, 8, fun b9 => .int (nI (gr1_1 b9))))) → (Fh40 (m + 5) = some (.inr (0, 8, fun b9 => .int (nI (gw1_1 b9))))) → (Fh40 (m + 6) = some (.inr (0, 112, fun b9 => .int (nI (b2 b9))))) → (∀ a9 : Nat, (a9 < m ∨ m + 1 ≤ a9) → (a9 < m + 2 ∨ m + 2 + 5 ≤ a9) → Fh40 a9 = F a9) → (t ≤ (hLen A.1 ((A.2.2.1.2.2 p).2.2.2 i - 97))) → (bm2 = bitsN (hLen A.1) (A.2.2.1.2.2 p).2.2.2 i + t) → (∀ j, j < bm2 → b2 j = xcat (splB (hLen A.1) (hVal (hLen A.1)) (A.2.2.1.2.2 p).2.2.2 i) (bitsN (hLen A.1) (A.2.2.1.2.2 p).2.2.2 i) (codeB (hLen A.1 ((A.2.2.1.2.2 p).2.2.2 i - 97)) (hVal (hLen A.1) ((A.2.2.1.2.2 p).2.2.2 i - 97))) j) → ((hLen A.1 ((A.2.2.1.2.2 p).2.2.2 i - 97)) - t < m9) → xX P Θ 40 [some (.ref m), some (.int (nI (p))), some (.int (nI (i))), some (.int (nI ((A.2.2.1.2.2 p).2.2.2 i - 97))), some (.int (nI (hLen A.1 ((A.2.2.1.2.2 p).2.2.2 i - 97)) - nI (t + 1)))] [] Fh40 (z) 0 0 := by
          intro m9
          induction m9 with
          | zero => intros; omega
          | succ m9 ih_40 =>
            intro Fh40 t bm2 b2 o0 ga h2 h3 h4 h5 h6 hag ht kb2 kc2 hm_40
            refine x_iload hC d_MessageCoderModel_bitsOf_40 rfl ?_
            refine x_if_lt hC d_MessageCoderModel_bitsOf_42 (tgt := 81) (by decide) (fun c_42 => ?_) (fun c_42 => ?_)
            · skip
              have ht9 : (hLen A.1 ((A.2.2.1.2.2 p).2.2.2 i - 97)) ≤ t := by have := (x_sublt (by omega) (by omega)).mp c_42; omega
              have et : t = (hLen A.1 ((A.2.2.1.2.2 p).2.2.2 i - 97)) := by omega
              have hsp : splB (hLen A.1) (hVal (hLen A.1)) (A.2.2.1.2.2 p).2.2.2 (i + 1) = xcat (splB (hLen A.1) (hVal (hLen A.1)) (A.2.2.1.2.2 p).2.2.2 i) (bitsN (hLen A.1) (A.2.2.1.2.2 p).2.2.2 i) (codeB (hLen A.1 ((A.2.2.1.2.2 p).2.2.2 i - 97)) (hVal (hLen A.1) ((A.2.2.1.2.2 p).2.2.2 i - 97))) := by show xcat _ _ (codeB (lenF _ _) (lenF _ _)) = _; rw [lenF_sy hsy, lenF_sy hsy]
              refine x_iinc hC d_MessageCoderModel_bitsOf_81 rfl (v := (nI (i + 1))) (x_incN 1) (Nat.le_of_ble_eq_true rfl) (L1 := [some (.ref m), some (.int (nI (p))), some (.int (nI (i + 1))), some (.int (nI ((A.2.2.1.2.2 p).2.2.2 i - 97))), some (.int (nI (hLen A.1 ((A.2.2.1.2.2 p).2.2.2 i - 97)) - nI (t + 1)))]) rfl ?_
              refine x_goto hC d_MessageCoderModel_bitsOf_84 (tgt := 11) (by decide) ?_
              refine x_forget (L1 := [some (.ref m), some (.int (nI (p))), some (.int (nI (i + 1))), none, none]) ⟨Or.inr rfl, ⟨Or.inr rfl, ⟨Or.inr rfl, ⟨Or.inl rfl, ⟨Or.inl rfl, trivial⟩⟩⟩⟩⟩ ?_
              exact ih_11 Fh40 (i + 1) (bm2) (b2) o0 ga h2 h3 h4 h5 h6 hag (by omega) (by rw [hbs, ← et]; exact kb2) (fun j hj => by rw [hsp]; exact kc2 j hj) (by omega)
            · skip
              have ht8 : ¬ (hLen A.1 ((A.2.2.1.2.2 p).2.2.2 i - 97)) < t + 1 := fun e => c_42 ((x_sublt (by omega) (by omega)).mpr e)
              refine x_aload_n hC d_MessageCoderModel_bitsOf_45 rfl rfl ?_
              refine x_getf hC kf_MessageCoderModel_25 o0 rfl d_MessageCoderModel_bitsOf_46 ?_
              refine x_aload_n hC d_MessageCoderModel_bitsOf_49 rfl rfl ?_
              refine x_getf hC kf_MessageCoderModel_94 o0 rfl d_MessageCoderModel_bitsOf_50 ?_
              refine x_aload_n hC d_MessageCoderModel_bitsOf_53 rfl rfl ?_
              refine x_getf hC kf_MessageCoderModel_16 o0 rfl d_MessageCoderModel_bitsOf_54 ?_
              refine x_iload_n hC d_MessageCoderModel_bitsOf_57 rfl rfl ?_
              refine x_iald hC h3 (j := (A.2.2.1.2.2 p).2.2.2 i - 97) ⟨rfl, by omega, by omega⟩ (x := nI ((hVal (hLen A.1) ((A.2.2.1.2.2 p).2.2.2 i - 97)))) (congrArg nI hk9.2) d_MessageCoderModel_bitsOf_58 ?_
              refine x_iload hC d_MessageCoderModel_bitsOf_59 rfl ?_
              refine x_ishr hC d_MessageCoderModel_bitsOf_61 (v := (nI ((hVal (hLen A.1) ((A.2.2.1.2.2 p).2.2.2 i - 97)) / 2 ^ ((hLen A.1 ((A.2.2.1.2.2 p).2.2.2 i - 97)) - (t + 1))))) (by rw [pk_sub (by omega)]; exact x_shrN _ (by omega) (by omega) rfl) ?_
              refine x_iconst hC d_MessageCoderModel_bitsOf_62 (v := nI 1) (by decide) ?_
              refine x_iand hC d_MessageCoderModel_bitsOf_63 (v := (nI ((hVal (hLen A.1) ((A.2.2.1.2.2 p).2.2.2 i - 97)) / 2 ^ ((hLen A.1 ((A.2.2.1.2.2 p).2.2.2 i - 97)) - (t + 1)) % 2))) (x_and1 (Nat.lt_of_le_of_lt (Nat.div_le_self _ _) (by omega))) ?_
              refine x_iast hC h6 (j := bm2) ⟨rfl, by omega, by omega⟩ d_MessageCoderModel_bitsOf_64 (g1 := fun b9 => nI (updN b2 (bm2) ((hVal (hLen A.1) ((A.2.2.1.2.2 p).2.2.2 i - 97)) / 2 ^ ((hLen A.1 ((A.2.2.1.2.2 p).2.2.2 i - 97)) - (t + 1)) % 2) b9)) (x_updN _ _ _) ?_
              generalize eqb9 : updN b2 (bm2) ((hVal (hLen A.1) ((A.2.2.1.2.2 p).2.2.2 i - 97)) / 2 ^ ((hLen A.1 ((A.2.2.1.2.2 p).2.2.2 i - 97)) - (t + 1)) % 2) = qb9
              generalize e4 : xup Fh40 (m + 6) (.inr (0, 112, fun b9 => .int (nI (qb9 b9)))) = F4
              have o0 : F4 (m) = some (.inl (10, [.int (nI (th)), .ref (m + 1), .int (nI (ch)), .int (nI (sv)), .int rs, .ref (m + 2), .ref (m + 3), .ref (m + 4), .ref (m + 5), .ref (m + 6), .int (nI (bm2)), .ref (m + 7), .int (nI (dm)), .ref (m + 8), .ref (m + 9), .int (nI (lz)), .ref (m + 10), .int (nI (ty)), .int (nI (he)), .int er, .int ea, .int fa, .ref (m + 11), .int (nI (cn))])) := by rw [← e4]; exact (xup_ne (by omega)).trans o0
              have ga : F4 (m + 1) = some (.inr (0, 4730, fun b9 => .int (nI (g b9)))) := by rw [← e4]; exact (xup_ne (by omega)).trans ga
              have h2 : F4 (m + 2) = some (.inr (0, 8, fun b9 => .int (nI (ln1_1 b9)))) := by rw [← e4]; exact (xup_ne (by omega)).trans h2
              have h3 : F4 (m + 3) = some (.inr (0, 8, fun b9 => .int (nI (vl1_1 b9)))) := by rw [← e4]; exact (xup_ne (by omega)).trans h3
              have h4 : F4 (m + 4) = some (.inr (0, 8, fun b9 => .int (nI (gr1_1 b9)))) := by rw [← e4]; exact (xup_ne (by omega)).trans h4
              have h5 : F4 (m + 5) = some (.inr (0, 8, fun b9 => .int (nI (gw1_1 b9)))) := by rw [← e4]; exact (xup_ne (by omega)).trans h5
              have h6 : F4 (m + 6) = some (.inr (0, 112, fun b9 => .int (nI (qb9 b9)))) := by rw [← e4]; exact xup_eq
              have hag : ∀ a9 : Nat, (a9 < m ∨ m + 1 ≤ a9) → (a9 < m + 2 ∨ m + 2 + 5 ≤ a9) → F4 a9 = F a9 := fun a9 q0 q1 => by rw [← e4]; exact (xup_ne (by omega)).trans (hag a9 q0 q1)
              refine x_aload_n hC d_MessageCoderModel_bitsOf_65 rfl rfl ?_
              refine x_dup hC d_MessageCoderModel_bitsOf_66 rfl ?_
              refine x_getf hC kf_MessageCoderModel_94 o0 rfl d_MessageCoderModel_bitsOf_67 ?_
              refine x_iconst hC d_MessageCoderModel_bitsOf_70 (v := nI 1) (by decide) ?_
              refine x_iadd hC d_MessageCoderModel_bitsOf_71 (v := (nI (bm2 + 1))) (x_addN (by omega)) ?_
              refine x_putf hC kf_MessageCoderModel_94 o0 (Nat.le_of_ble_eq_true rfl) rfl rfl d_MessageCoderModel_bitsOf_72 (fs1 := [.int (nI (th)), .ref (m + 1), .int (nI (ch)), .int (nI (sv)), .int rs, .ref (m + 2), .ref (m + 3), .ref (m + 4), .ref (m + 5), .ref (m + 6), .int (nI (bm2 + 1)), .ref (m + 7), .int (nI (dm)), .ref (m + 8), .ref (m + 9), .int (nI (lz)), .ref (m + 10), .int (nI (ty)), .int (nI (he)), .int er, .int ea, .int fa, .ref (m + 11), .int (nI (cn))]) rfl ?_
              generalize e5 : xup F4 (m) (.inl (10, [.int (nI (th)), .ref (m + 1), .int (nI (ch)), .int (nI (sv)), .int rs, .ref (m + 2), .ref (m + 3), .ref (m + 4), .ref (m + 5), .ref (m + 6), .int (nI (bm2 + 1)), .ref (m + 7), .int (nI (dm)), .ref (m + 8), .ref (m + 9), .int (nI (lz)), .ref (m + 10), .int (nI (ty)), .int (nI (he)), .int er, .int ea, .int fa, .ref (m + 11), .int (nI (cn))])) = F5
              have o0 : F5 (m) = some (.inl (10, [.int (nI (th)), .ref (m + 1), .int (nI (ch)), .int (nI (sv)), .int rs, .ref (m + 2), .ref (m + 3), .ref (m + 4), .ref (m + 5), .ref (m + 6), .int (nI (bm2 + 1)), .ref (m + 7), .int (nI (dm)), .ref (m + 8), .ref (m + 9), .int (nI (lz)), .ref (m + 10), .int (nI (ty)), .int (nI (he)), .int er, .int ea, .int fa, .ref (m + 11), .int (nI (cn))])) := by rw [← e5]; exact xup_eq
              have ga : F5 (m + 1) = some (.inr (0, 4730, fun b9 => .int (nI (g b9)))) := by rw [← e5]; exact (xup_ne (by omega)).trans ga
              have h2 : F5 (m + 2) = some (.inr (0, 8, fun b9 => .int (nI (ln1_1 b9)))) := by rw [← e5]; exact (xup_ne (by omega)).trans h2
              have h3 : F5 (m + 3) = some (.inr (0, 8, fun b9 => .int (nI (vl1_1 b9)))) := by rw [← e5]; exact (xup_ne (by omega)).trans h3
              have h4 : F5 (m + 4) = some (.inr (0, 8, fun b9 => .int (nI (gr1_1 b9)))) := by rw [← e5]; exact (xup_ne (by omega)).trans h4
              have h5 : F5 (m + 5) = some (.inr (0, 8, fun b9 => .int (nI (gw1_1 b9)))) := by rw [← e5]; exact (xup_ne (by omega)).trans h5
              have h6 : F5 (m + 6) = some (.inr (0, 112, fun b9 => .int (nI (qb9 b9)))) := by rw [← e5]; exact (xup_ne (by omega)).trans h6
              have hag : ∀ a9 : Nat, (a9 < m ∨ m + 1 ≤ a9) → (a9 < m + 2 ∨ m + 2 + 5 ≤ a9) → F5 a9 = F a9 := fun a9 q0 q1 => by rw [← e5]; exact (xup_ne (by omega)).trans (hag a9 q0 q1)
              refine x_iinc hC d_MessageCoderModel_bitsOf_75 rfl (v := (nI (hLen A.1 ((A.2.2.1.2.2 p).2.2.2 i - 97)) - nI ((t + 1) + 1))) (x_sub1 _ _) (Nat.le_of_ble_eq_true rfl) (L1 := [some (.ref m), some (.int (nI (p))), some (.int (nI (i))), some (.int (nI ((A.2.2.1.2.2 p).2.2.2 i - 97))), some (.int (nI (hLen A.1 ((A.2.2.1.2.2 p).2.2.2 i - 97)) - nI ((t + 1) + 1)))]) rfl ?_
              refine x_goto hC d_MessageCoderModel_bitsOf_78 (tgt := 40) (by decide) ?_
              exact ih_40 F5 (t + 1) (bm2 + 1) (qb9) o0 ga h2 h3 h4 h5 h6 hag (by omega) (by omega) (fun j hj => (Nat.lt_or_ge j bm2).elim (fun q => by rw [← eqb9, updN_ne (by omega)]; exact kc2 j q) (fun q => by rw [← eqb9, show j = bm2 by omega, updN_eq, xcat, if_neg (by omega), codeB, kb2, show bitsN (hLen A.1) (A.2.2.1.2.2 p).2.2.2 i + t - bitsN (hLen A.1) (A.2.2.1.2.2 p).2.2.2 i = t by omega, show (hLen A.1 ((A.2.2.1.2.2 p).2.2.2 i - 97)) - 1 - t = (hLen A.1 ((A.2.2.1.2.2 p).2.2.2 i - 97)) - (t + 1) by omega])) (by omega)
        exact loop_40 ((hLen A.1 ((A.2.2.1.2.2 p).2.2.2 i - 97)) - 0 + 1) Fh11 (0) (bm1) (b1) o0 ga h2 h3 h4 h5 h6 hag (by omega) (by omega) (fun j hj => by rw [xcat, if_pos (by omega)]; exact kbb j hj) (by omega)
  exact loop_11 ((A.2.2.1.2.2 p).2.2.1 - 0 + 1) F2 (0) (0) (b0) o0 ga h2 h3 h4 h5 h6 hag (by omega) (rfl) (fun _ hj => absurd hj (by omega)) (by omega)

theorem d_MessageCoderModel_bit_0 : decode prog_14_method_46_code 0 = .ok (.iload_n 1, 1) := by decide +kernel
theorem d_MessageCoderModel_bit_1 : decode prog_14_method_46_code 1 = .ok (.aload_n 0, 1) := by decide +kernel
theorem d_MessageCoderModel_bit_2 : decode prog_14_method_46_code 2 = .ok (.getfield 94, 3) := by decide +kernel
theorem d_MessageCoderModel_bit_5 : decode prog_14_method_46_code 5 = .ok (.if_icmp .ge 12, 3) := by decide +kernel
theorem d_MessageCoderModel_bit_8 : decode prog_14_method_46_code 8 = .ok (.aload_n 0, 1) := by decide +kernel
theorem d_MessageCoderModel_bit_9 : decode prog_14_method_46_code 9 = .ok (.getfield 25, 3) := by decide +kernel
theorem d_MessageCoderModel_bit_12 : decode prog_14_method_46_code 12 = .ok (.iload_n 1, 1) := by decide +kernel
theorem d_MessageCoderModel_bit_13 : decode prog_14_method_46_code 13 = .ok (.iaload, 1) := by decide +kernel
theorem d_MessageCoderModel_bit_14 : decode prog_14_method_46_code 14 = .ok (.goto 4, 3) := by decide +kernel
theorem d_MessageCoderModel_bit_17 : decode prog_14_method_46_code 17 = .ok (.iconst 0, 1) := by decide +kernel
theorem d_MessageCoderModel_bit_18 : decode prog_14_method_46_code 18 = .ok (.ireturn, 1) := by decide +kernel
set_option maxHeartbeats 4000000 in
set_option maxRecDepth 20000 in
theorem c_MessageCoderModel_bit {P : xP} {F : xF} {z : Nat} {m : Nat} {th : Nat} {ch : Nat} {sv : Nat} {rs : Int32} {bm : Nat} {dm : Nat} {lz : Nat} {ty : Nat} {he : Nat} {er : Int32} {ea : Int32} {fa : Int32} {cn : Nat} {b1 : Nat → Nat} {i : Nat} (o0 : F (m) = some (.inl (10, [.int (nI (th)), .ref (m + 1), .int (nI (ch)), .int (nI (sv)), .int rs, .ref (m + 2), .ref (m + 3), .ref (m + 4), .ref (m + 5), .ref (m + 6), .int (nI (bm)), .ref (m + 7), .int (nI (dm)), .ref (m + 8), .ref (m + 9), .int (nI (lz)), .ref (m + 10), .int (nI (ty)), .int (nI (he)), .int er, .int ea, .int fa, .ref (m + 11), .int (nI (cn))]))) (h6 : F (m + 6) = some (.inr (0, 112, fun b9 => .int (nI (b1 b9))))) (hi : i < 1000) (hb : bm ≤ 112) : xM P xy_MessageCoderModel_bit [.ref m, .int (nI (i))] F (z) 0 0 (fun r9 F9 z9 => r9 = some (.int (nI (if i < bm then b1 i else 0))) ∧ F9 = F ∧ z9 = z) := by
  refine xM_i .int rfl (Nat.le_of_ble_eq_true rfl) (L0 := [some (.ref m), some (.int (nI (i)))]) rfl rfl fun Θ hC hret => ?_
  refine x_iload_n hC d_MessageCoderModel_bit_0 rfl rfl ?_
  refine x_aload_n hC d_MessageCoderModel_bit_1 rfl rfl ?_
  refine x_getf hC kf_MessageCoderModel_94 o0 rfl d_MessageCoderModel_bit_2 ?_
  refine x_icmpN_ge hC d_MessageCoderModel_bit_5 (tgt := 17) (by decide) (by omega) (by omega) (fun c_5 => ?_) (fun c_5 => ?_)
  · skip
    refine x_iconst hC d_MessageCoderModel_bit_17 (v := nI 0) (by decide) ?_
    exact hret _ _ _ _ _ _ _ d_MessageCoderModel_bit_18 (by decide) (by decide) rfl (⟨congrArg (fun q => some (Value.int (nI q))) ((if_neg (by omega)).symm), rfl, rfl⟩)
  · skip
    refine x_aload_n hC d_MessageCoderModel_bit_8 rfl rfl ?_
    refine x_getf hC kf_MessageCoderModel_25 o0 rfl d_MessageCoderModel_bit_9 ?_
    refine x_iload_n hC d_MessageCoderModel_bit_12 rfl rfl ?_
    refine x_iald hC h6 (j := i) ⟨rfl, by omega, by omega⟩ (x := nI (b1 (i))) rfl d_MessageCoderModel_bit_13 ?_
    refine x_goto hC d_MessageCoderModel_bit_14 (tgt := 18) (by decide) ?_
    exact hret _ _ _ _ _ _ _ d_MessageCoderModel_bit_18 (by decide) (by decide) rfl (⟨congrArg (fun q => some (Value.int (nI q))) ((if_pos (by omega)).symm), rfl, rfl⟩)

