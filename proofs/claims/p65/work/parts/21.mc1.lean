/-! the coder as a tuple: state; saved; past; input; line; is saved; past place; undoable; error; failed -/
abbrev mcS : Type := aS × aS × (Nat → aS) × (Nat × (Nat → Nat)) × (Nat × (Nat → Nat)) × Nat × Nat × Nat × Int32 × Int32
def xPs (F : xF) (b : Nat) (past : Nat → aS) : Prop := ∀ i, i < 9 → xSt F (b + 125 + 49 * i) (past i)
theorem xPs_fr {F F1 : xF} {b : Nat} {past : Nat → aS} (h : xPs F b past) (hf : ∀ a, b + 125 ≤ a → a < b + 125 + 441 → F1 a = F a) : xPs F1 b past := fun i hi => xSt_fr (h i hi) (fun a q1 q2 => hf a (by omega) (by omega))
theorem xPs_up {F F1 : xF} {b i : Nat} {past : Nat → aS} {A : aS} (h : xPs F b past) (hi : i < 9) (h1 : xSt F1 (b + 125 + 49 * i) A) (hf : ∀ a, a < b + 125 + 49 * i ∨ b + 125 + 49 * i + 49 ≤ a → F1 a = F a) : xPs F1 b (updA past i A) := by
  intro j hj
  by_cases e : j = i
  · rw [e, updA_eq]
    exact h1
  · rw [updA_ne e]
    exact xSt_fr (h j hj) (fun a q1 q2 => hf a (by omega))
def xMC (F : xF) (cm : cmT) (b : Nat) (M : mcS) : Prop := F b = some (.inl (9, [.ref (b + 1), .ref (b + 50), .ref (b + 99), .ref (b + 100), .ref (b + 107), .ref (b + 109), .ref (b + 111), .ref (b + 122), .ref (b + 124), .int (nI M.2.2.2.2.2.1), .int (nI M.2.2.2.2.2.2.1), .int (nI M.2.2.2.2.2.2.2.1), .int M.2.2.2.2.2.2.2.2.1, .int M.2.2.2.2.2.2.2.2.2])) ∧ xSt F (b + 1) M.1 ∧ xSt F (b + 50) M.2.1 ∧ (∃ pf : Nat → Value, F (b + 99) = some (.inr (4, 9, pf)) ∧ ∀ i, i < 9 → pf i = .ref (b + 125 + 49 * i)) ∧ (∃ cc pa f1 f2 hf : Nat, ∃ K : kS, F (b + 100) = some (.inl (4, [.ref (b + 101), .ref (b + 103), .ref (b + 104), .ref (b + 105), .ref (b + 106), .int (nI K.1), .int (nI cc), .int (nI pa), .int (nI f1), .int (nI f2), .int (nI hf)])) ∧ xPk F (b + 100) cm.2.1 K) ∧ xTx F (b + 101) 60 M.2.2.2.1.1 M.2.2.2.1.2 ∧ xTx F (b + 107) 32 M.2.2.2.2.1.1 M.2.2.2.2.1.2 ∧ (∃ nb : Nat, ∃ fb9 : Nat → Nat, xBt F (b + 109) nb fb9) ∧ xRg F (b + 111) ∧ (∃ tn : Nat, ∃ tsg : Nat → Nat, xTx F (b + 122) 16 tn tsg) ∧ (∃ cr : Nat → Nat, F (b + 124) = some (.inr (0, 17, fun b9 => .int (nI (cr b9))))) ∧ xPs F b M.2.2.1
theorem xMC_fr {F F1 : xF} {cm : cmT} {b : Nat} {M : mcS} (h : xMC F cm b M) (hf : ∀ a, b ≤ a → a < b + 566 → F1 a = F a) : xMC F1 cm b M := by
  obtain ⟨b0, hs, hv, ⟨pf, hpa, hpf⟩, ⟨cc, pa, f1, f2, hf9, K, p0, hK⟩, hin, hli, ⟨nb, fb9, hbt⟩, hrg, ⟨tn, tsg, htr⟩, ⟨cr, hcr⟩, hps⟩ := h
  exact ⟨(hf _ (by omega) (by omega)).trans b0, xSt_fr hs (fun a q1 q2 => hf a (by omega) (by omega)), xSt_fr hv (fun a q1 q2 => hf a (by omega) (by omega)), ⟨pf, (hf _ (by omega) (by omega)).trans hpa, hpf⟩, ⟨cc, pa, f1, f2, hf9, K, (hf _ (by omega) (by omega)).trans p0, xPk_fr hK (fun a q1 q2 => hf a (by omega) (by omega))⟩, xTx_fr hin (fun a q1 q2 => hf a (by omega) (by omega)), xTx_fr hli (fun a q1 q2 => hf a (by omega) (by omega)), ⟨nb, fb9, xBt_fr hbt (fun a q1 q2 => hf a (by omega) (by omega))⟩, xRg_fr hrg (fun a q1 q2 => hf a (by omega) (by omega)), ⟨tn, tsg, xTx_fr htr (fun a q1 q2 => hf a (by omega) (by omega))⟩, ⟨cr, (hf _ (by omega) (by omega)).trans hcr⟩, xPs_fr hps (fun a q1 q2 => hf a (by omega) (by omega))⟩
/-- the switch's row stands -/
def xSM (P : xP) (sm : Nat) : Prop := (∀ U, P.2.2.2.2 U → va_Z "MessageCoder$1" "$SwitchMap$MessageCoder$Command" "[I" (.ref sm) (xA0 P) U P.2.2.1) ∧ ∀ U, P.2.2.2.2 U → va_T .int sm 10 (fun j => .int (nI (j + 1))) (xA0 P) U P.2.2.1
def chP (r : Int32) (pp : Nat) : Nat := if r < 0 then pp else pp + 1
def un1 (un : Nat) : Nat := if 8 < un + 1 then 8 else un + 1
def chU (r : Int32) (un : Nat) : Nat := if r < 0 then un else un1 un
def chgM (M : mcS) (r : Int32 × aS) : mcS := (r.2, M.2.1, updA M.2.2.1 (M.2.2.2.2.2.2.1 % 9) M.1, M.2.2.2.1, M.2.2.2.2.1, M.2.2.2.2.2.1, chP r.1 M.2.2.2.2.2.2.1, chU r.1 M.2.2.2.2.2.2.2.1, M.2.2.2.2.2.2.2.2)
/-- one step, by its command's number -/
def aDo (A : aS) (j c x : Nat) : Int32 × aS := if j = 0 then aWt A c (nI x) else if j = 1 then aDr A c else if j = 2 then aCl A else if j = 3 then aPo A (nI c) else if j = 4 then aDi A (nI c) else if j = 5 then aHu A (nI c) (nI x) else if j = 6 then aLe A (nI c) else if j = 7 then aSe A else if j = 8 then aFl A (nI c) else aRe A

theorem d_MessageCoder_pastState_0 : decode prog_1_method_73_code 0 = .ok (.aload_n 0, 1) := by decide +kernel
theorem d_MessageCoder_pastState_1 : decode prog_1_method_73_code 1 = .ok (.getfield 19, 3) := by decide +kernel
theorem d_MessageCoder_pastState_4 : decode prog_1_method_73_code 4 = .ok (.aload_n 0, 1) := by decide +kernel
theorem d_MessageCoder_pastState_5 : decode prog_1_method_73_code 5 = .ok (.getfield 373, 3) := by decide +kernel
theorem d_MessageCoder_pastState_8 : decode prog_1_method_73_code 8 = .ok (.bipush 9, 2) := by decide +kernel
theorem d_MessageCoder_pastState_10 : decode prog_1_method_73_code 10 = .ok (.invokestatic 470, 3) := by decide +kernel
theorem d_MessageCoder_pastState_13 : decode prog_1_method_73_code 13 = .ok (.aaload, 1) := by decide +kernel
theorem d_MessageCoder_pastState_14 : decode prog_1_method_73_code 14 = .ok (.areturn, 1) := by decide +kernel
set_option maxHeartbeats 4000000 in
set_option maxRecDepth 20000 in
theorem c_MessageCoder_pastState {P : xP} {F : xF} {z : Nat} {b : Nat} {sv : Nat} {pp : Nat} {un : Nat} {ep : Int32} {fc : Int32} {pf : Nat → Value} (b0 : F (b) = some (.inl (9, [.ref (b + 1), .ref (b + 50), .ref (b + 99), .ref (b + 100), .ref (b + 107), .ref (b + 109), .ref (b + 111), .ref (b + 122), .ref (b + 124), .int (nI (sv)), .int (nI (pp)), .int (nI (un)), .int ep, .int fc]))) (hpa : F (b + 99) = some (.inr (4, 9, pf))) (hpf : ∀ i, i < 9 → pf i = .ref (b + 125 + 49 * i)) (hpp : pp < 100000) : xM P xy_MessageCoder_pastState [.ref b] F (z) 0 0 (fun r9 F9 z9 => r9 = some (.ref (b + 125 + 49 * (pp % 9))) ∧ F9 = F ∧ z9 = z) := by
  refine xM_a rfl (Nat.le_of_ble_eq_true rfl) (L0 := [some (.ref b)]) rfl rfl (by simp) fun Θ hC hret => ?_
  refine x_aload_n hC d_MessageCoder_pastState_0 rfl rfl ?_
  refine x_getf hC kf_MessageCoder_19 b0 rfl d_MessageCoder_pastState_1 ?_
  refine x_aload_n hC d_MessageCoder_pastState_4 rfl rfl ?_
  refine x_getf hC kf_MessageCoder_373 b0 rfl d_MessageCoder_pastState_5 ?_
  refine x_bipush hC d_MessageCoder_pastState_8 (v := nI 9) (by decide) ?_
  refine x_callS hC ks_MessageCoder_470 (c_Math_floorMod (hy := by decide)) (by decide) rfl rfl rfl (Nat.le_of_ble_eq_true rfl) (by decide) d_MessageCoder_pastState_10 (fun r9 F9 z9 hp9 => ?_)
  obtain ⟨rfl, h9b, h9c⟩ := hp9
  rw [h9b, h9c]
  clear h9b h9c F9 z9
  refine x_top (v := (nI (pp % 9))) (fmJ_9 (by omega)) ?_
  refine x_aald hC hpa (by decide) rfl (j := pp % 9) ⟨rfl, by omega, by omega⟩ (x := .ref (b + 125 + 49 * (pp % 9))) (hpf (pp % 9) (by omega)) rfl d_MessageCoder_pastState_13 ?_
  exact hret _ _ _ _ _ _ _ d_MessageCoder_pastState_14 (by decide) (by decide) (Or.inr ⟨_, rfl⟩) (⟨rfl, rfl, rfl⟩)

theorem d_MessageCoder_keepBefore_0 : decode prog_1_method_74_code 0 = .ok (.aload_n 0, 1) := by decide +kernel
theorem d_MessageCoder_keepBefore_1 : decode prog_1_method_74_code 1 = .ok (.invokevirtual 475, 3) := by decide +kernel
theorem d_MessageCoder_keepBefore_4 : decode prog_1_method_74_code 4 = .ok (.aload_n 0, 1) := by decide +kernel
theorem d_MessageCoder_keepBefore_5 : decode prog_1_method_74_code 5 = .ok (.getfield 12, 3) := by decide +kernel
theorem d_MessageCoder_keepBefore_8 : decode prog_1_method_74_code 8 = .ok (.invokevirtual 379, 3) := by decide +kernel
theorem d_MessageCoder_keepBefore_11 : decode prog_1_method_74_code 11 = .ok (.return_, 1) := by decide +kernel
set_option maxHeartbeats 4000000 in
set_option maxRecDepth 20000 in
theorem c_MessageCoder_keepBefore {P : xP} {F : xF} {z : Nat} {b : Nat} {sv : Nat} {pp : Nat} {un : Nat} {ep : Int32} {fc : Int32} {pf : Nat → Value} {A : aS} {past : Nat → aS} (b0 : F (b) = some (.inl (9, [.ref (b + 1), .ref (b + 50), .ref (b + 99), .ref (b + 100), .ref (b + 107), .ref (b + 109), .ref (b + 111), .ref (b + 122), .ref (b + 124), .int (nI (sv)), .int (nI (pp)), .int (nI (un)), .int ep, .int fc]))) (hpa : F (b + 99) = some (.inr (4, 9, pf))) (hs : xSt F (b + 1) (A)) (hps : xPs F (b) (past)) (hpf : ∀ i, i < 9 → pf i = .ref (b + 125 + 49 * i)) (hpp : pp < 100000) : xM P xy_MessageCoder_keepBefore [.ref b] F (z) 0 0 (fun r9 F9 z9 => r9 = none ∧ z9 = z ∧ xPs F9 (b) ((updA past (pp % 9) A)) ∧ (∀ a9 : Nat, (a9 < b + 125 ∨ b + 125 + 441 ≤ a9) → F9 a9 = F a9)) := by
  refine xM_v rfl (Nat.le_of_ble_eq_true rfl) (L0 := [some (.ref b)]) rfl rfl fun Θ hC hin hret => ?_
  have hag : ∀ a9 : Nat, (a9 < b + 125 ∨ b + 125 + 441 ≤ a9) → F a9 = F a9 := fun a9 _ => rfl
  refine x_aload_n hC d_MessageCoder_keepBefore_0 rfl rfl ?_
  refine x_callV hC kv_MessageCoder_475 (c_MessageCoder_pastState (b0 := b0) (hpa := hpa) (hpf := hpf) (hpp := by omega)) b0 rfl rfl (by decide) rfl rfl rfl (Nat.le_of_ble_eq_true rfl) (by decide) d_MessageCoder_keepBefore_1 (fun r9 F9 z9 hp9 => ?_)
  obtain ⟨rfl, h9b, h9c⟩ := hp9
  rw [h9b, h9c]
  clear h9b h9c F9 z9
  refine x_aload_n hC d_MessageCoder_keepBefore_4 rfl rfl ?_
  refine x_getf hC kf_MessageCoder_12 b0 rfl d_MessageCoder_keepBefore_5 ?_
  have hq9 : pp % 9 < 9 := Nat.mod_lt _ (by decide)
  have hpi := hps _ hq9
  refine x_callV hC kv_MessageCoder_379 (c_State_copyFrom (hs := hpi) (ho := hs) (hd := by omega)) hpi.1 rfl rfl (by decide) rfl rfl rfl (Nat.le_of_ble_eq_true rfl) (by decide) d_MessageCoder_keepBefore_8 (fun r9 F9 z9 hp9 => ?_)
  obtain ⟨rfl, h9c, j0, j1, hag9⟩ := hp9
  rw [h9c]
  clear h9c z9
  generalize F9 = F1 at *
  have b0 : F1 (b) = some (.inl (9, [.ref (b + 1), .ref (b + 50), .ref (b + 99), .ref (b + 100), .ref (b + 107), .ref (b + 109), .ref (b + 111), .ref (b + 122), .ref (b + 124), .int (nI (sv)), .int (nI (pp)), .int (nI (un)), .int ep, .int fc])) := (hag9 _ (by omega)).trans b0
  have hpa : F1 (b + 99) = some (.inr (4, 9, pf)) := (hag9 _ (by omega)).trans hpa
  have hpi : xSt F1 ((b + 125 + 49 * (pp % 9))) (A) := j0
  have hs : xSt F1 ((b + 1)) (A) := j1
  have hag : ∀ a9 : Nat, (a9 < b + 125 ∨ b + 125 + 441 ≤ a9) → F1 a9 = F a9 := fun a9 q0 => (hag9 a9 (by omega)).trans (hag a9 q0)
  have hg_8 := hag9
  clear hag9
  have hps : xPs F1 b (updA past (pp % 9) A) := xPs_up hps hq9 hpi (fun a9 h9 => hg_8 a9 h9)
  exact hret _ _ _ _ _ _ d_MessageCoder_keepBefore_11 (by decide) (by decide) (⟨rfl, rfl, hps, hag⟩)


theorem d_MessageCoder_countChange_0 : decode prog_1_method_76_code 0 = .ok (.aload_n 0, 1) := by decide +kernel
theorem d_MessageCoder_countChange_1 : decode prog_1_method_76_code 1 = .ok (.dup, 1) := by decide +kernel
theorem d_MessageCoder_countChange_2 : decode prog_1_method_76_code 2 = .ok (.getfield 373, 3) := by decide +kernel
theorem d_MessageCoder_countChange_5 : decode prog_1_method_76_code 5 = .ok (.iconst 1, 1) := by decide +kernel
theorem d_MessageCoder_countChange_6 : decode prog_1_method_76_code 6 = .ok (.iadd, 1) := by decide +kernel
theorem d_MessageCoder_countChange_7 : decode prog_1_method_76_code 7 = .ok (.putfield 373, 3) := by decide +kernel
theorem d_MessageCoder_countChange_10 : decode prog_1_method_76_code 10 = .ok (.aload_n 0, 1) := by decide +kernel
theorem d_MessageCoder_countChange_11 : decode prog_1_method_76_code 11 = .ok (.aload_n 0, 1) := by decide +kernel
theorem d_MessageCoder_countChange_12 : decode prog_1_method_76_code 12 = .ok (.getfield 368, 3) := by decide +kernel
theorem d_MessageCoder_countChange_15 : decode prog_1_method_76_code 15 = .ok (.iconst 1, 1) := by decide +kernel
theorem d_MessageCoder_countChange_16 : decode prog_1_method_76_code 16 = .ok (.iadd, 1) := by decide +kernel
theorem d_MessageCoder_countChange_17 : decode prog_1_method_76_code 17 = .ok (.bipush 8, 2) := by decide +kernel
theorem d_MessageCoder_countChange_19 : decode prog_1_method_76_code 19 = .ok (.invokestatic 479, 3) := by decide +kernel
theorem d_MessageCoder_countChange_22 : decode prog_1_method_76_code 22 = .ok (.putfield 368, 3) := by decide +kernel
theorem d_MessageCoder_countChange_25 : decode prog_1_method_76_code 25 = .ok (.return_, 1) := by decide +kernel
set_option maxHeartbeats 4000000 in
set_option maxRecDepth 20000 in
theorem c_MessageCoder_countChange {P : xP} {F : xF} {z : Nat} {b : Nat} {sv : Nat} {pp : Nat} {un : Nat} {ep : Int32} {fc : Int32} (b0 : F (b) = some (.inl (9, [.ref (b + 1), .ref (b + 50), .ref (b + 99), .ref (b + 100), .ref (b + 107), .ref (b + 109), .ref (b + 111), .ref (b + 122), .ref (b + 124), .int (nI (sv)), .int (nI (pp)), .int (nI (un)), .int ep, .int fc]))) (hpp : pp < 100000) (hun : un < 100000) : xM P xy_MessageCoder_countChange [.ref b] F (z) 0 0 (fun r9 F9 z9 => r9 = none ∧ z9 = z ∧ F9 (b) = some (.inl (9, [.ref (b + 1), .ref (b + 50), .ref (b + 99), .ref (b + 100), .ref (b + 107), .ref (b + 109), .ref (b + 111), .ref (b + 122), .ref (b + 124), .int (nI (sv)), .int (nI (pp + 1)), .int (nI (un1 un)), .int ep, .int fc])) ∧ (∀ a9 : Nat, (a9 < b ∨ b + 1 ≤ a9) → F9 a9 = F a9)) := by
  refine xM_v rfl (Nat.le_of_ble_eq_true rfl) (L0 := [some (.ref b)]) rfl rfl fun Θ hC hin hret => ?_
  have hag : ∀ a9 : Nat, (a9 < b ∨ b + 1 ≤ a9) → F a9 = F a9 := fun a9 _ => rfl
  refine x_aload_n hC d_MessageCoder_countChange_0 rfl rfl ?_
  refine x_dup hC d_MessageCoder_countChange_1 rfl ?_
  refine x_getf hC kf_MessageCoder_373 b0 rfl d_MessageCoder_countChange_2 ?_
  refine x_iconst hC d_MessageCoder_countChange_5 (v := nI 1) (by decide) ?_
  refine x_iadd hC d_MessageCoder_countChange_6 (v := (nI (pp + 1))) (x_addN (by omega)) ?_
  refine x_putf hC kf_MessageCoder_373 b0 (Nat.le_of_ble_eq_true rfl) rfl rfl d_MessageCoder_countChange_7 (fs1 := [.ref (b + 1), .ref (b + 50), .ref (b + 99), .ref (b + 100), .ref (b + 107), .ref (b + 109), .ref (b + 111), .ref (b + 122), .ref (b + 124), .int (nI (sv)), .int (nI (pp + 1)), .int (nI (un)), .int ep, .int fc]) rfl ?_
  generalize e1 : xup F (b) (.inl (9, [.ref (b + 1), .ref (b + 50), .ref (b + 99), .ref (b + 100), .ref (b + 107), .ref (b + 109), .ref (b + 111), .ref (b + 122), .ref (b + 124), .int (nI (sv)), .int (nI (pp + 1)), .int (nI (un)), .int ep, .int fc])) = F1
  have b0 : F1 (b) = some (.inl (9, [.ref (b + 1), .ref (b + 50), .ref (b + 99), .ref (b + 100), .ref (b + 107), .ref (b + 109), .ref (b + 111), .ref (b + 122), .ref (b + 124), .int (nI (sv)), .int (nI (pp + 1)), .int (nI (un)), .int ep, .int fc])) := by rw [← e1]; exact xup_eq
  have hag : ∀ a9 : Nat, (a9 < b ∨ b + 1 ≤ a9) → F1 a9 = F a9 := fun a9 q0 => by rw [← e1]; exact (xup_ne (by omega)).trans (hag a9 q0)
  refine x_aload_n hC d_MessageCoder_countChange_10 rfl rfl ?_
  refine x_aload_n hC d_MessageCoder_countChange_11 rfl rfl ?_
  refine x_getf hC kf_MessageCoder_368 b0 rfl d_MessageCoder_countChange_12 ?_
  refine x_iconst hC d_MessageCoder_countChange_15 (v := nI 1) (by decide) ?_
  refine x_iadd hC d_MessageCoder_countChange_16 (v := (nI (un + 1))) (x_addN (by omega)) ?_
  refine x_bipush hC d_MessageCoder_countChange_17 (v := nI 8) (by decide) ?_
  refine x_mminN hC km_MessageCoder_479 (by omega) (by omega) rfl (by decide) (Nat.le_of_ble_eq_true rfl) (by decide) d_MessageCoder_countChange_19 (v := if 8 < un + 1 then 8 else un + 1) rfl ?_
  refine x_putf hC kf_MessageCoder_368 b0 (Nat.le_of_ble_eq_true rfl) rfl rfl d_MessageCoder_countChange_22 (fs1 := [.ref (b + 1), .ref (b + 50), .ref (b + 99), .ref (b + 100), .ref (b + 107), .ref (b + 109), .ref (b + 111), .ref (b + 122), .ref (b + 124), .int (nI (sv)), .int (nI (pp + 1)), .int (nI (if 8 < un + 1 then 8 else un + 1)), .int ep, .int fc]) rfl ?_
  generalize e2 : xup F1 (b) (.inl (9, [.ref (b + 1), .ref (b + 50), .ref (b + 99), .ref (b + 100), .ref (b + 107), .ref (b + 109), .ref (b + 111), .ref (b + 122), .ref (b + 124), .int (nI (sv)), .int (nI (pp + 1)), .int (nI (if 8 < un + 1 then 8 else un + 1)), .int ep, .int fc])) = F2
  have b0 : F2 (b) = some (.inl (9, [.ref (b + 1), .ref (b + 50), .ref (b + 99), .ref (b + 100), .ref (b + 107), .ref (b + 109), .ref (b + 111), .ref (b + 122), .ref (b + 124), .int (nI (sv)), .int (nI (pp + 1)), .int (nI (if 8 < un + 1 then 8 else un + 1)), .int ep, .int fc])) := by rw [← e2]; exact xup_eq
  have hag : ∀ a9 : Nat, (a9 < b ∨ b + 1 ≤ a9) → F2 a9 = F a9 := fun a9 q0 => by rw [← e2]; exact (xup_ne (by omega)).trans (hag a9 q0)
  exact hret _ _ _ _ _ _ d_MessageCoder_countChange_25 (by decide) (by decide) (⟨rfl, rfl, b0, hag⟩)

theorem d_MessageCoder_perform_0 : decode prog_1_method_71_code 0 = .ok (.getstatic 413, 3) := by decide +kernel
theorem d_MessageCoder_perform_3 : decode prog_1_method_71_code 3 = .ok (.aload_n 1, 1) := by decide +kernel
theorem d_MessageCoder_perform_4 : decode prog_1_method_71_code 4 = .ok (.invokevirtual 418, 3) := by decide +kernel
theorem d_MessageCoder_perform_7 : decode prog_1_method_71_code 7 = .ok (.iaload, 1) := by decide +kernel
theorem d_MessageCoder_perform_8 : decode prog_1_method_71_code 8 = .ok (.tableswitch 151 1 10 #[56, 67, 77, 85, 94, 103, 113, 122, 134, 143], 56) := by decide +kernel
theorem d_MessageCoder_perform_64 : decode prog_1_method_71_code 64 = .ok (.aload_n 0, 1) := by decide +kernel
theorem d_MessageCoder_perform_65 : decode prog_1_method_71_code 65 = .ok (.getfield 12, 3) := by decide +kernel
theorem d_MessageCoder_perform_68 : decode prog_1_method_71_code 68 = .ok (.iload_n 2, 1) := by decide +kernel
theorem d_MessageCoder_perform_69 : decode prog_1_method_71_code 69 = .ok (.i2c, 1) := by decide +kernel
theorem d_MessageCoder_perform_70 : decode prog_1_method_71_code 70 = .ok (.iload_n 3, 1) := by decide +kernel
theorem d_MessageCoder_perform_71 : decode prog_1_method_71_code 71 = .ok (.invokevirtual 421, 3) := by decide +kernel
theorem d_MessageCoder_perform_74 : decode prog_1_method_71_code 74 = .ok (.ireturn, 1) := by decide +kernel
theorem d_MessageCoder_perform_75 : decode prog_1_method_71_code 75 = .ok (.aload_n 0, 1) := by decide +kernel
theorem d_MessageCoder_perform_76 : decode prog_1_method_71_code 76 = .ok (.getfield 12, 3) := by decide +kernel
theorem d_MessageCoder_perform_79 : decode prog_1_method_71_code 79 = .ok (.iload_n 2, 1) := by decide +kernel
theorem d_MessageCoder_perform_80 : decode prog_1_method_71_code 80 = .ok (.i2c, 1) := by decide +kernel
theorem d_MessageCoder_perform_81 : decode prog_1_method_71_code 81 = .ok (.invokevirtual 425, 3) := by decide +kernel
theorem d_MessageCoder_perform_84 : decode prog_1_method_71_code 84 = .ok (.ireturn, 1) := by decide +kernel
theorem d_MessageCoder_perform_85 : decode prog_1_method_71_code 85 = .ok (.aload_n 0, 1) := by decide +kernel
theorem d_MessageCoder_perform_86 : decode prog_1_method_71_code 86 = .ok (.getfield 12, 3) := by decide +kernel
theorem d_MessageCoder_perform_89 : decode prog_1_method_71_code 89 = .ok (.invokevirtual 428, 3) := by decide +kernel
theorem d_MessageCoder_perform_92 : decode prog_1_method_71_code 92 = .ok (.ireturn, 1) := by decide +kernel
theorem d_MessageCoder_perform_93 : decode prog_1_method_71_code 93 = .ok (.aload_n 0, 1) := by decide +kernel
theorem d_MessageCoder_perform_94 : decode prog_1_method_71_code 94 = .ok (.getfield 12, 3) := by decide +kernel
theorem d_MessageCoder_perform_97 : decode prog_1_method_71_code 97 = .ok (.iload_n 2, 1) := by decide +kernel
theorem d_MessageCoder_perform_98 : decode prog_1_method_71_code 98 = .ok (.invokevirtual 431, 3) := by decide +kernel
theorem d_MessageCoder_perform_101 : decode prog_1_method_71_code 101 = .ok (.ireturn, 1) := by decide +kernel
theorem d_MessageCoder_perform_102 : decode prog_1_method_71_code 102 = .ok (.aload_n 0, 1) := by decide +kernel
theorem d_MessageCoder_perform_103 : decode prog_1_method_71_code 103 = .ok (.getfield 12, 3) := by decide +kernel
theorem d_MessageCoder_perform_106 : decode prog_1_method_71_code 106 = .ok (.iload_n 2, 1) := by decide +kernel
theorem d_MessageCoder_perform_107 : decode prog_1_method_71_code 107 = .ok (.invokevirtual 434, 3) := by decide +kernel
theorem d_MessageCoder_perform_110 : decode prog_1_method_71_code 110 = .ok (.ireturn, 1) := by decide +kernel
theorem d_MessageCoder_perform_111 : decode prog_1_method_71_code 111 = .ok (.aload_n 0, 1) := by decide +kernel
theorem d_MessageCoder_perform_112 : decode prog_1_method_71_code 112 = .ok (.getfield 12, 3) := by decide +kernel
theorem d_MessageCoder_perform_115 : decode prog_1_method_71_code 115 = .ok (.iload_n 2, 1) := by decide +kernel
theorem d_MessageCoder_perform_116 : decode prog_1_method_71_code 116 = .ok (.iload_n 3, 1) := by decide +kernel
theorem d_MessageCoder_perform_117 : decode prog_1_method_71_code 117 = .ok (.invokevirtual 437, 3) := by decide +kernel
theorem d_MessageCoder_perform_120 : decode prog_1_method_71_code 120 = .ok (.ireturn, 1) := by decide +kernel
theorem d_MessageCoder_perform_121 : decode prog_1_method_71_code 121 = .ok (.aload_n 0, 1) := by decide +kernel
theorem d_MessageCoder_perform_122 : decode prog_1_method_71_code 122 = .ok (.getfield 12, 3) := by decide +kernel
theorem d_MessageCoder_perform_125 : decode prog_1_method_71_code 125 = .ok (.iload_n 2, 1) := by decide +kernel
theorem d_MessageCoder_perform_126 : decode prog_1_method_71_code 126 = .ok (.invokevirtual 441, 3) := by decide +kernel
theorem d_MessageCoder_perform_129 : decode prog_1_method_71_code 129 = .ok (.ireturn, 1) := by decide +kernel
theorem d_MessageCoder_perform_130 : decode prog_1_method_71_code 130 = .ok (.aload_n 0, 1) := by decide +kernel
theorem d_MessageCoder_perform_131 : decode prog_1_method_71_code 131 = .ok (.getfield 12, 3) := by decide +kernel
theorem d_MessageCoder_perform_134 : decode prog_1_method_71_code 134 = .ok (.aload_n 0, 1) := by decide +kernel
theorem d_MessageCoder_perform_135 : decode prog_1_method_71_code 135 = .ok (.getfield 42, 3) := by decide +kernel
theorem d_MessageCoder_perform_138 : decode prog_1_method_71_code 138 = .ok (.invokevirtual 444, 3) := by decide +kernel
theorem d_MessageCoder_perform_141 : decode prog_1_method_71_code 141 = .ok (.ireturn, 1) := by decide +kernel
theorem d_MessageCoder_perform_142 : decode prog_1_method_71_code 142 = .ok (.aload_n 0, 1) := by decide +kernel
theorem d_MessageCoder_perform_143 : decode prog_1_method_71_code 143 = .ok (.getfield 12, 3) := by decide +kernel
theorem d_MessageCoder_perform_146 : decode prog_1_method_71_code 146 = .ok (.iload_n 2, 1) := by decide +kernel
theorem d_MessageCoder_perform_147 : decode prog_1_method_71_code 147 = .ok (.invokevirtual 448, 3) := by decide +kernel
theorem d_MessageCoder_perform_150 : decode prog_1_method_71_code 150 = .ok (.ireturn, 1) := by decide +kernel
theorem d_MessageCoder_perform_151 : decode prog_1_method_71_code 151 = .ok (.aload_n 0, 1) := by decide +kernel
theorem d_MessageCoder_perform_152 : decode prog_1_method_71_code 152 = .ok (.getfield 12, 3) := by decide +kernel
theorem d_MessageCoder_perform_155 : decode prog_1_method_71_code 155 = .ok (.invokevirtual 451, 3) := by decide +kernel
theorem d_MessageCoder_perform_158 : decode prog_1_method_71_code 158 = .ok (.ireturn, 1) := by decide +kernel
theorem d_MessageCoder_perform_159 : decode prog_1_method_71_code 159 = .ok (.bipush (-2), 2) := by decide +kernel
theorem d_MessageCoder_perform_161 : decode prog_1_method_71_code 161 = .ok (.ireturn, 1) := by decide +kernel
set_option maxHeartbeats 4000000 in
set_option maxRecDepth 20000 in
theorem c_MessageCoder_perform0 {P : xP} {F : xF} {z : Nat} {b : Nat} {cm : cmT} {sm : Nat} {sv : Nat} {pp : Nat} {un : Nat} {ep : Int32} {fc : Int32} {A : aS} {nb : Nat} {fb9 : Nat → Nat} {c : Nat} {x : Int32} (b0 : F (b) = some (.inl (9, [.ref (b + 1), .ref (b + 50), .ref (b + 99), .ref (b + 100), .ref (b + 107), .ref (b + 109), .ref (b + 111), .ref (b + 122), .ref (b + 124), .int (nI (sv)), .int (nI (pp)), .int (nI (un)), .int ep, .int fc]))) (hs : xSt F (b + 1) (A)) (hbt : xBt F (b + 109) (nb) (fb9)) (hCM : xCM P cm) (hSM : xSM P sm) (hc0 : c < 65536) : xM P xy_MessageCoder_perform [.ref b, .ref (cm.2.1 0), .int (nI (c)), .int x] F (z) 0 0 (fun r9 F9 z9 => ∃ nb1 : Nat, ∃ fb1 : Nat → Nat, r9 = some (.int ((aWt A c x).1)) ∧ z9 = z ∧ xSt F9 (b + 1) ((aWt A c x).2) ∧ xBt F9 (b + 109) (nb1) (fb1) ∧ (∀ a9 : Nat, (a9 < b + 1 ∨ b + 1 + 49 ≤ a9) → (a9 < b + 109 ∨ b + 109 + 2 ≤ a9) → F9 a9 = F a9)) := by
  refine xM_i .int rfl (Nat.le_of_ble_eq_true rfl) (L0 := [some (.ref b), some (.ref (cm.2.1 0)), some (.int (nI (c))), some (.int x)]) rfl rfl fun Θ hC hret => ?_
  have hag : ∀ a9 : Nat, (a9 < b + 1 ∨ b + 1 + 49 ≤ a9) → (a9 < b + 109 ∨ b + 109 + 2 ≤ a9) → F a9 = F a9 := fun a9 _ _ => rfl
  refine x_gets hC (v := .ref sm) hSM.1 (x_in (x_of (xtb_4 (List.mem_of_getElem? (i := 235) (by decide +kernel)))) (by decide +kernel)) d_MessageCoder_perform_0 ?_
  refine x_aload_n hC d_MessageCoder_perform_3 rfl rfl ?_
  refine x_ordinal hC (j := 0) (hCM.2.2.1 0 (by decide)) (hCM.2.2.2.2.2.1 0 (by decide)) (by decide) rfl (Nat.le_of_ble_eq_true rfl) (by decide) d_MessageCoder_perform_4 ?_
  refine x_sti hC hSM.2 (j := 0) ⟨rfl, by decide, by decide⟩ (x := (nI (1))) rfl d_MessageCoder_perform_7 ?_
  refine x_tableIn hC d_MessageCoder_perform_8 (by decide +kernel) (by decide +kernel) (off := 56) (by decide +kernel) (tgt := 64) (by decide) ?_
  refine x_aload_n hC d_MessageCoder_perform_64 rfl rfl ?_
  refine x_getf hC kf_MessageCoder_12 b0 rfl d_MessageCoder_perform_65 ?_
  refine x_iload_n hC d_MessageCoder_perform_68 rfl rfl ?_
  refine x_i2c hC d_MessageCoder_perform_69 (v := (nI (c))) (x_i2cN (by omega)) ?_
  refine x_iload_n hC d_MessageCoder_perform_70 rfl rfl ?_
  refine x_callV hC kv_MessageCoder_421 (c_State_putWeight (hs := hs) (hc0 := by omega)) hs.1 rfl rfl (by decide) rfl rfl rfl (Nat.le_of_ble_eq_true rfl) (by decide) d_MessageCoder_perform_71 (fun r9 F9 z9 hp9 => ?_)
  obtain ⟨rfl, h9c, j0, hag9⟩ := hp9
  rw [h9c]
  clear h9c z9
  generalize F9 = F1 at *
  have b0 : F1 (b) = some (.inl (9, [.ref (b + 1), .ref (b + 50), .ref (b + 99), .ref (b + 100), .ref (b + 107), .ref (b + 109), .ref (b + 111), .ref (b + 122), .ref (b + 124), .int (nI (sv)), .int (nI (pp)), .int (nI (un)), .int ep, .int fc])) := (hag9 _ (by omega)).trans b0
  have hbt : xBt F1 (b + 109) (nb) (fb9) := xBt_fr hbt (fun a9 q1 q2 => hag9 a9 (by omega))
  have hs : xSt F1 ((b + 1)) ((aWt A c x).2) := j0
  have hag : ∀ a9 : Nat, (a9 < b + 1 ∨ b + 1 + 49 ≤ a9) → (a9 < b + 109 ∨ b + 109 + 2 ≤ a9) → F1 a9 = F a9 := fun a9 q0 q1 => (hag9 a9 (by omega)).trans (hag a9 q0 q1)
  have hg_71 := hag9
  clear hag9
  exact hret _ _ _ _ _ _ _ d_MessageCoder_perform_74 (by decide) (by decide) rfl (⟨_, _, rfl, rfl, hs, hbt, hag⟩)

set_option maxHeartbeats 4000000 in
set_option maxRecDepth 20000 in
theorem c_MessageCoder_perform1 {P : xP} {F : xF} {z : Nat} {b : Nat} {cm : cmT} {sm : Nat} {sv : Nat} {pp : Nat} {un : Nat} {ep : Int32} {fc : Int32} {A : aS} {nb : Nat} {fb9 : Nat → Nat} {c : Nat} {x : Int32} (b0 : F (b) = some (.inl (9, [.ref (b + 1), .ref (b + 50), .ref (b + 99), .ref (b + 100), .ref (b + 107), .ref (b + 109), .ref (b + 111), .ref (b + 122), .ref (b + 124), .int (nI (sv)), .int (nI (pp)), .int (nI (un)), .int ep, .int fc]))) (hs : xSt F (b + 1) (A)) (hbt : xBt F (b + 109) (nb) (fb9)) (hCM : xCM P cm) (hSM : xSM P sm) (hc0 : c < 65536) : xM P xy_MessageCoder_perform [.ref b, .ref (cm.2.1 1), .int (nI (c)), .int x] F (z) 0 0 (fun r9 F9 z9 => ∃ nb1 : Nat, ∃ fb1 : Nat → Nat, r9 = some (.int ((aDr A c).1)) ∧ z9 = z ∧ xSt F9 (b + 1) ((aDr A c).2) ∧ xBt F9 (b + 109) (nb1) (fb1) ∧ (∀ a9 : Nat, (a9 < b + 1 ∨ b + 1 + 49 ≤ a9) → (a9 < b + 109 ∨ b + 109 + 2 ≤ a9) → F9 a9 = F a9)) := by
  refine xM_i .int rfl (Nat.le_of_ble_eq_true rfl) (L0 := [some (.ref b), some (.ref (cm.2.1 1)), some (.int (nI (c))), some (.int x)]) rfl rfl fun Θ hC hret => ?_
  have hag : ∀ a9 : Nat, (a9 < b + 1 ∨ b + 1 + 49 ≤ a9) → (a9 < b + 109 ∨ b + 109 + 2 ≤ a9) → F a9 = F a9 := fun a9 _ _ => rfl
  refine x_gets hC (v := .ref sm) hSM.1 (x_in (x_of (xtb_4 (List.mem_of_getElem? (i := 235) (by decide +kernel)))) (by decide +kernel)) d_MessageCoder_perform_0 ?_
  refine x_aload_n hC d_MessageCoder_perform_3 rfl rfl ?_
  refine x_ordinal hC (j := 1) (hCM.2.2.1 1 (by decide)) (hCM.2.2.2.2.2.1 1 (by decide)) (by decide) rfl (Nat.le_of_ble_eq_true rfl) (by decide) d_MessageCoder_perform_4 ?_
  refine x_sti hC hSM.2 (j := 1) ⟨rfl, by decide, by decide⟩ (x := (nI (2))) rfl d_MessageCoder_perform_7 ?_
  refine x_tableIn hC d_MessageCoder_perform_8 (by decide +kernel) (by decide +kernel) (off := 67) (by decide +kernel) (tgt := 75) (by decide) ?_
  refine x_aload_n hC d_MessageCoder_perform_75 rfl rfl ?_
  refine x_getf hC kf_MessageCoder_12 b0 rfl d_MessageCoder_perform_76 ?_
  refine x_iload_n hC d_MessageCoder_perform_79 rfl rfl ?_
  refine x_i2c hC d_MessageCoder_perform_80 (v := (nI (c))) (x_i2cN (by omega)) ?_
  refine x_callV hC kv_MessageCoder_425 (c_State_addToDraft (hs := hs) (hc0 := by omega)) hs.1 rfl rfl (by decide) rfl rfl rfl (Nat.le_of_ble_eq_true rfl) (by decide) d_MessageCoder_perform_81 (fun r9 F9 z9 hp9 => ?_)
  obtain ⟨rfl, h9c, j0, hag9⟩ := hp9
  rw [h9c]
  clear h9c z9
  generalize F9 = F1 at *
  have b0 : F1 (b) = some (.inl (9, [.ref (b + 1), .ref (b + 50), .ref (b + 99), .ref (b + 100), .ref (b + 107), .ref (b + 109), .ref (b + 111), .ref (b + 122), .ref (b + 124), .int (nI (sv)), .int (nI (pp)), .int (nI (un)), .int ep, .int fc])) := (hag9 _ (by omega)).trans b0
  have hbt : xBt F1 (b + 109) (nb) (fb9) := xBt_fr hbt (fun a9 q1 q2 => hag9 a9 (by omega))
  have hs : xSt F1 ((b + 1)) ((aDr A c).2) := j0
  have hag : ∀ a9 : Nat, (a9 < b + 1 ∨ b + 1 + 49 ≤ a9) → (a9 < b + 109 ∨ b + 109 + 2 ≤ a9) → F1 a9 = F a9 := fun a9 q0 q1 => (hag9 a9 (by omega)).trans (hag a9 q0 q1)
  have hg_81 := hag9
  clear hag9
  exact hret _ _ _ _ _ _ _ d_MessageCoder_perform_84 (by decide) (by decide) rfl (⟨_, _, rfl, rfl, hs, hbt, hag⟩)

set_option maxHeartbeats 4000000 in
set_option maxRecDepth 20000 in
theorem c_MessageCoder_perform3 {P : xP} {F : xF} {z : Nat} {b : Nat} {cm : cmT} {sm : Nat} {sv : Nat} {pp : Nat} {un : Nat} {ep : Int32} {fc : Int32} {A : aS} {nb : Nat} {fb9 : Nat → Nat} {a : Int32} {x : Int32} (b0 : F (b) = some (.inl (9, [.ref (b + 1), .ref (b + 50), .ref (b + 99), .ref (b + 100), .ref (b + 107), .ref (b + 109), .ref (b + 111), .ref (b + 122), .ref (b + 124), .int (nI (sv)), .int (nI (pp)), .int (nI (un)), .int ep, .int fc]))) (hs : xSt F (b + 1) (A)) (hbt : xBt F (b + 109) (nb) (fb9)) (hCM : xCM P cm) (hSM : xSM P sm) (hnx : A.2.2.1.2.1 < 999) : xM P xy_MessageCoder_perform [.ref b, .ref (cm.2.1 3), .int a, .int x] F (z) 0 0 (fun r9 F9 z9 => ∃ nb1 : Nat, ∃ fb1 : Nat → Nat, r9 = some (.int ((aPo A a).1)) ∧ z9 = z ∧ xSt F9 (b + 1) ((aPo A a).2) ∧ xBt F9 (b + 109) (nb1) (fb1) ∧ (∀ a9 : Nat, (a9 < b + 1 ∨ b + 1 + 49 ≤ a9) → (a9 < b + 109 ∨ b + 109 + 2 ≤ a9) → F9 a9 = F a9)) := by
  refine xM_i .int rfl (Nat.le_of_ble_eq_true rfl) (L0 := [some (.ref b), some (.ref (cm.2.1 3)), some (.int a), some (.int x)]) rfl rfl fun Θ hC hret => ?_
  have hag : ∀ a9 : Nat, (a9 < b + 1 ∨ b + 1 + 49 ≤ a9) → (a9 < b + 109 ∨ b + 109 + 2 ≤ a9) → F a9 = F a9 := fun a9 _ _ => rfl
  refine x_gets hC (v := .ref sm) hSM.1 (x_in (x_of (xtb_4 (List.mem_of_getElem? (i := 235) (by decide +kernel)))) (by decide +kernel)) d_MessageCoder_perform_0 ?_
  refine x_aload_n hC d_MessageCoder_perform_3 rfl rfl ?_
  refine x_ordinal hC (j := 3) (hCM.2.2.1 3 (by decide)) (hCM.2.2.2.2.2.1 3 (by decide)) (by decide) rfl (Nat.le_of_ble_eq_true rfl) (by decide) d_MessageCoder_perform_4 ?_
  refine x_sti hC hSM.2 (j := 3) ⟨rfl, by decide, by decide⟩ (x := (nI (4))) rfl d_MessageCoder_perform_7 ?_
  refine x_tableIn hC d_MessageCoder_perform_8 (by decide +kernel) (by decide +kernel) (off := 85) (by decide +kernel) (tgt := 93) (by decide) ?_
  refine x_aload_n hC d_MessageCoder_perform_93 rfl rfl ?_
  refine x_getf hC kf_MessageCoder_12 b0 rfl d_MessageCoder_perform_94 ?_
  refine x_iload_n hC d_MessageCoder_perform_97 rfl rfl ?_
  refine x_callV hC kv_MessageCoder_431 (c_State_enqueue (hs := hs) (hnx := hnx)) hs.1 rfl rfl (by decide) rfl rfl rfl (Nat.le_of_ble_eq_true rfl) (by decide) d_MessageCoder_perform_98 (fun r9 F9 z9 hp9 => ?_)
  obtain ⟨rfl, h9c, j0, hag9⟩ := hp9
  rw [h9c]
  clear h9c z9
  generalize F9 = F1 at *
  have b0 : F1 (b) = some (.inl (9, [.ref (b + 1), .ref (b + 50), .ref (b + 99), .ref (b + 100), .ref (b + 107), .ref (b + 109), .ref (b + 111), .ref (b + 122), .ref (b + 124), .int (nI (sv)), .int (nI (pp)), .int (nI (un)), .int ep, .int fc])) := (hag9 _ (by omega)).trans b0
  have hbt : xBt F1 (b + 109) (nb) (fb9) := xBt_fr hbt (fun a9 q1 q2 => hag9 a9 (by omega))
  have hs : xSt F1 ((b + 1)) ((aPo A a).2) := j0
  have hag : ∀ a9 : Nat, (a9 < b + 1 ∨ b + 1 + 49 ≤ a9) → (a9 < b + 109 ∨ b + 109 + 2 ≤ a9) → F1 a9 = F a9 := fun a9 q0 q1 => (hag9 a9 (by omega)).trans (hag a9 q0 q1)
  have hg_98 := hag9
  clear hag9
  exact hret _ _ _ _ _ _ _ d_MessageCoder_perform_101 (by decide) (by decide) rfl (⟨_, _, rfl, rfl, hs, hbt, hag⟩)

set_option maxHeartbeats 4000000 in
set_option maxRecDepth 20000 in
theorem c_MessageCoder_perform4 {P : xP} {F : xF} {z : Nat} {b : Nat} {cm : cmT} {sm : Nat} {sv : Nat} {pp : Nat} {un : Nat} {ep : Int32} {fc : Int32} {A : aS} {nb : Nat} {fb9 : Nat → Nat} {a : Int32} {x : Int32} (b0 : F (b) = some (.inl (9, [.ref (b + 1), .ref (b + 50), .ref (b + 99), .ref (b + 100), .ref (b + 107), .ref (b + 109), .ref (b + 111), .ref (b + 122), .ref (b + 124), .int (nI (sv)), .int (nI (pp)), .int (nI (un)), .int ep, .int fc]))) (hs : xSt F (b + 1) (A)) (hbt : xBt F (b + 109) (nb) (fb9)) (hCM : xCM P cm) (hSM : xSM P sm) : xM P xy_MessageCoder_perform [.ref b, .ref (cm.2.1 4), .int a, .int x] F (z) 0 0 (fun r9 F9 z9 => ∃ nb1 : Nat, ∃ fb1 : Nat → Nat, r9 = some (.int ((aDi A a).1)) ∧ z9 = z ∧ xSt F9 (b + 1) ((aDi A a).2) ∧ xBt F9 (b + 109) (nb1) (fb1) ∧ (∀ a9 : Nat, (a9 < b + 1 ∨ b + 1 + 49 ≤ a9) → (a9 < b + 109 ∨ b + 109 + 2 ≤ a9) → F9 a9 = F a9)) := by
  refine xM_i .int rfl (Nat.le_of_ble_eq_true rfl) (L0 := [some (.ref b), some (.ref (cm.2.1 4)), some (.int a), some (.int x)]) rfl rfl fun Θ hC hret => ?_
  have hag : ∀ a9 : Nat, (a9 < b + 1 ∨ b + 1 + 49 ≤ a9) → (a9 < b + 109 ∨ b + 109 + 2 ≤ a9) → F a9 = F a9 := fun a9 _ _ => rfl
  refine x_gets hC (v := .ref sm) hSM.1 (x_in (x_of (xtb_4 (List.mem_of_getElem? (i := 235) (by decide +kernel)))) (by decide +kernel)) d_MessageCoder_perform_0 ?_
  refine x_aload_n hC d_MessageCoder_perform_3 rfl rfl ?_
  refine x_ordinal hC (j := 4) (hCM.2.2.1 4 (by decide)) (hCM.2.2.2.2.2.1 4 (by decide)) (by decide) rfl (Nat.le_of_ble_eq_true rfl) (by decide) d_MessageCoder_perform_4 ?_
  refine x_sti hC hSM.2 (j := 4) ⟨rfl, by decide, by decide⟩ (x := (nI (5))) rfl d_MessageCoder_perform_7 ?_
  refine x_tableIn hC d_MessageCoder_perform_8 (by decide +kernel) (by decide +kernel) (off := 94) (by decide +kernel) (tgt := 102) (by decide) ?_
  refine x_aload_n hC d_MessageCoder_perform_102 rfl rfl ?_
  refine x_getf hC kf_MessageCoder_12 b0 rfl d_MessageCoder_perform_103 ?_
  refine x_iload_n hC d_MessageCoder_perform_106 rfl rfl ?_
  refine x_callV hC kv_MessageCoder_434 (c_State_discard (hs := hs)) hs.1 rfl rfl (by decide) rfl rfl rfl (Nat.le_of_ble_eq_true rfl) (by decide) d_MessageCoder_perform_107 (fun r9 F9 z9 hp9 => ?_)
  obtain ⟨rfl, h9c, j0, hag9⟩ := hp9
  rw [h9c]
  clear h9c z9
  generalize F9 = F1 at *
  have b0 : F1 (b) = some (.inl (9, [.ref (b + 1), .ref (b + 50), .ref (b + 99), .ref (b + 100), .ref (b + 107), .ref (b + 109), .ref (b + 111), .ref (b + 122), .ref (b + 124), .int (nI (sv)), .int (nI (pp)), .int (nI (un)), .int ep, .int fc])) := (hag9 _ (by omega)).trans b0
  have hbt : xBt F1 (b + 109) (nb) (fb9) := xBt_fr hbt (fun a9 q1 q2 => hag9 a9 (by omega))
  have hs : xSt F1 ((b + 1)) ((aDi A a).2) := j0
  have hag : ∀ a9 : Nat, (a9 < b + 1 ∨ b + 1 + 49 ≤ a9) → (a9 < b + 109 ∨ b + 109 + 2 ≤ a9) → F1 a9 = F a9 := fun a9 q0 q1 => (hag9 a9 (by omega)).trans (hag a9 q0 q1)
  have hg_107 := hag9
  clear hag9
  exact hret _ _ _ _ _ _ _ d_MessageCoder_perform_110 (by decide) (by decide) rfl (⟨_, _, rfl, rfl, hs, hbt, hag⟩)

set_option maxHeartbeats 4000000 in
set_option maxRecDepth 20000 in
theorem c_MessageCoder_perform5 {P : xP} {F : xF} {z : Nat} {b : Nat} {cm : cmT} {sm : Nat} {sv : Nat} {pp : Nat} {un : Nat} {ep : Int32} {fc : Int32} {A : aS} {nb : Nat} {fb9 : Nat → Nat} {a : Int32} {x : Int32} (b0 : F (b) = some (.inl (9, [.ref (b + 1), .ref (b + 50), .ref (b + 99), .ref (b + 100), .ref (b + 107), .ref (b + 109), .ref (b + 111), .ref (b + 122), .ref (b + 124), .int (nI (sv)), .int (nI (pp)), .int (nI (un)), .int ep, .int fc]))) (hs : xSt F (b + 1) (A)) (hbt : xBt F (b + 109) (nb) (fb9)) (hCM : xCM P cm) (hSM : xSM P sm) : xM P xy_MessageCoder_perform [.ref b, .ref (cm.2.1 5), .int a, .int x] F (z) 0 0 (fun r9 F9 z9 => ∃ nb1 : Nat, ∃ fb1 : Nat → Nat, r9 = some (.int ((aHu A a x).1)) ∧ z9 = z ∧ xSt F9 (b + 1) ((aHu A a x).2) ∧ xBt F9 (b + 109) (nb1) (fb1) ∧ (∀ a9 : Nat, (a9 < b + 1 ∨ b + 1 + 49 ≤ a9) → (a9 < b + 109 ∨ b + 109 + 2 ≤ a9) → F9 a9 = F a9)) := by
  refine xM_i .int rfl (Nat.le_of_ble_eq_true rfl) (L0 := [some (.ref b), some (.ref (cm.2.1 5)), some (.int a), some (.int x)]) rfl rfl fun Θ hC hret => ?_
  have hag : ∀ a9 : Nat, (a9 < b + 1 ∨ b + 1 + 49 ≤ a9) → (a9 < b + 109 ∨ b + 109 + 2 ≤ a9) → F a9 = F a9 := fun a9 _ _ => rfl
  refine x_gets hC (v := .ref sm) hSM.1 (x_in (x_of (xtb_4 (List.mem_of_getElem? (i := 235) (by decide +kernel)))) (by decide +kernel)) d_MessageCoder_perform_0 ?_
  refine x_aload_n hC d_MessageCoder_perform_3 rfl rfl ?_
  refine x_ordinal hC (j := 5) (hCM.2.2.1 5 (by decide)) (hCM.2.2.2.2.2.1 5 (by decide)) (by decide) rfl (Nat.le_of_ble_eq_true rfl) (by decide) d_MessageCoder_perform_4 ?_
  refine x_sti hC hSM.2 (j := 5) ⟨rfl, by decide, by decide⟩ (x := (nI (6))) rfl d_MessageCoder_perform_7 ?_
  refine x_tableIn hC d_MessageCoder_perform_8 (by decide +kernel) (by decide +kernel) (off := 103) (by decide +kernel) (tgt := 111) (by decide) ?_
  refine x_aload_n hC d_MessageCoder_perform_111 rfl rfl ?_
  refine x_getf hC kf_MessageCoder_12 b0 rfl d_MessageCoder_perform_112 ?_
  refine x_iload_n hC d_MessageCoder_perform_115 rfl rfl ?_
  refine x_iload_n hC d_MessageCoder_perform_116 rfl rfl ?_
  refine x_callV hC kv_MessageCoder_437 (c_State_putPriority (hs := hs)) hs.1 rfl rfl (by decide) rfl rfl rfl (Nat.le_of_ble_eq_true rfl) (by decide) d_MessageCoder_perform_117 (fun r9 F9 z9 hp9 => ?_)
  obtain ⟨rfl, h9c, j0, hag9⟩ := hp9
  rw [h9c]
  clear h9c z9
  generalize F9 = F1 at *
  have b0 : F1 (b) = some (.inl (9, [.ref (b + 1), .ref (b + 50), .ref (b + 99), .ref (b + 100), .ref (b + 107), .ref (b + 109), .ref (b + 111), .ref (b + 122), .ref (b + 124), .int (nI (sv)), .int (nI (pp)), .int (nI (un)), .int ep, .int fc])) := (hag9 _ (by omega)).trans b0
  have hbt : xBt F1 (b + 109) (nb) (fb9) := xBt_fr hbt (fun a9 q1 q2 => hag9 a9 (by omega))
  have hs : xSt F1 ((b + 1)) ((aHu A a x).2) := j0
  have hag : ∀ a9 : Nat, (a9 < b + 1 ∨ b + 1 + 49 ≤ a9) → (a9 < b + 109 ∨ b + 109 + 2 ≤ a9) → F1 a9 = F a9 := fun a9 q0 q1 => (hag9 a9 (by omega)).trans (hag a9 q0 q1)
  have hg_117 := hag9
  clear hag9
  exact hret _ _ _ _ _ _ _ d_MessageCoder_perform_120 (by decide) (by decide) rfl (⟨_, _, rfl, rfl, hs, hbt, hag⟩)

set_option maxHeartbeats 4000000 in
set_option maxRecDepth 20000 in
theorem c_MessageCoder_perform6 {P : xP} {F : xF} {z : Nat} {b : Nat} {cm : cmT} {sm : Nat} {sv : Nat} {pp : Nat} {un : Nat} {ep : Int32} {fc : Int32} {A : aS} {nb : Nat} {fb9 : Nat → Nat} {a : Int32} {x : Int32} (b0 : F (b) = some (.inl (9, [.ref (b + 1), .ref (b + 50), .ref (b + 99), .ref (b + 100), .ref (b + 107), .ref (b + 109), .ref (b + 111), .ref (b + 122), .ref (b + 124), .int (nI (sv)), .int (nI (pp)), .int (nI (un)), .int ep, .int fc]))) (hs : xSt F (b + 1) (A)) (hbt : xBt F (b + 109) (nb) (fb9)) (hCM : xCM P cm) (hSM : xSM P sm) : xM P xy_MessageCoder_perform [.ref b, .ref (cm.2.1 6), .int a, .int x] F (z) 0 0 (fun r9 F9 z9 => ∃ nb1 : Nat, ∃ fb1 : Nat → Nat, r9 = some (.int ((aLe A a).1)) ∧ z9 = z ∧ xSt F9 (b + 1) ((aLe A a).2) ∧ xBt F9 (b + 109) (nb1) (fb1) ∧ (∀ a9 : Nat, (a9 < b + 1 ∨ b + 1 + 49 ≤ a9) → (a9 < b + 109 ∨ b + 109 + 2 ≤ a9) → F9 a9 = F a9)) := by
  refine xM_i .int rfl (Nat.le_of_ble_eq_true rfl) (L0 := [some (.ref b), some (.ref (cm.2.1 6)), some (.int a), some (.int x)]) rfl rfl fun Θ hC hret => ?_
  have hag : ∀ a9 : Nat, (a9 < b + 1 ∨ b + 1 + 49 ≤ a9) → (a9 < b + 109 ∨ b + 109 + 2 ≤ a9) → F a9 = F a9 := fun a9 _ _ => rfl
  refine x_gets hC (v := .ref sm) hSM.1 (x_in (x_of (xtb_4 (List.mem_of_getElem? (i := 235) (by decide +kernel)))) (by decide +kernel)) d_MessageCoder_perform_0 ?_
  refine x_aload_n hC d_MessageCoder_perform_3 rfl rfl ?_
  refine x_ordinal hC (j := 6) (hCM.2.2.1 6 (by decide)) (hCM.2.2.2.2.2.1 6 (by decide)) (by decide) rfl (Nat.le_of_ble_eq_true rfl) (by decide) d_MessageCoder_perform_4 ?_
  refine x_sti hC hSM.2 (j := 6) ⟨rfl, by decide, by decide⟩ (x := (nI (7))) rfl d_MessageCoder_perform_7 ?_
  refine x_tableIn hC d_MessageCoder_perform_8 (by decide +kernel) (by decide +kernel) (off := 113) (by decide +kernel) (tgt := 121) (by decide) ?_
  refine x_aload_n hC d_MessageCoder_perform_121 rfl rfl ?_
  refine x_getf hC kf_MessageCoder_12 b0 rfl d_MessageCoder_perform_122 ?_
  refine x_iload_n hC d_MessageCoder_perform_125 rfl rfl ?_
  refine x_callV hC kv_MessageCoder_441 (c_State_learnFrom (hs := hs)) hs.1 rfl rfl (by decide) rfl rfl rfl (Nat.le_of_ble_eq_true rfl) (by decide) d_MessageCoder_perform_126 (fun r9 F9 z9 hp9 => ?_)
  obtain ⟨rfl, h9c, j0, hag9⟩ := hp9
  rw [h9c]
  clear h9c z9
  generalize F9 = F1 at *
  have b0 : F1 (b) = some (.inl (9, [.ref (b + 1), .ref (b + 50), .ref (b + 99), .ref (b + 100), .ref (b + 107), .ref (b + 109), .ref (b + 111), .ref (b + 122), .ref (b + 124), .int (nI (sv)), .int (nI (pp)), .int (nI (un)), .int ep, .int fc])) := (hag9 _ (by omega)).trans b0
  have hbt : xBt F1 (b + 109) (nb) (fb9) := xBt_fr hbt (fun a9 q1 q2 => hag9 a9 (by omega))
  have hs : xSt F1 ((b + 1)) ((aLe A a).2) := j0
  have hag : ∀ a9 : Nat, (a9 < b + 1 ∨ b + 1 + 49 ≤ a9) → (a9 < b + 109 ∨ b + 109 + 2 ≤ a9) → F1 a9 = F a9 := fun a9 q0 q1 => (hag9 a9 (by omega)).trans (hag a9 q0 q1)
  have hg_126 := hag9
  clear hag9
  exact hret _ _ _ _ _ _ _ d_MessageCoder_perform_129 (by decide) (by decide) rfl (⟨_, _, rfl, rfl, hs, hbt, hag⟩)

set_option maxHeartbeats 4000000 in
set_option maxRecDepth 20000 in
theorem c_MessageCoder_perform7 {P : xP} {F : xF} {z : Nat} {b : Nat} {cm : cmT} {sm : Nat} {sv : Nat} {pp : Nat} {un : Nat} {ep : Int32} {fc : Int32} {A : aS} {nb : Nat} {fb9 : Nat → Nat} {a : Int32} {x : Int32} (b0 : F (b) = some (.inl (9, [.ref (b + 1), .ref (b + 50), .ref (b + 99), .ref (b + 100), .ref (b + 107), .ref (b + 109), .ref (b + 111), .ref (b + 122), .ref (b + 124), .int (nI (sv)), .int (nI (pp)), .int (nI (un)), .int ep, .int fc]))) (hs : xSt F (b + 1) (A)) (hbt : xBt F (b + 109) (nb) (fb9)) (hCM : xCM P cm) (hSM : xSM P sm) : xM P xy_MessageCoder_perform [.ref b, .ref (cm.2.1 7), .int a, .int x] F (z) 0 0 (fun r9 F9 z9 => ∃ nb1 : Nat, ∃ fb1 : Nat → Nat, r9 = some (.int ((aSe A).1)) ∧ z9 = z ∧ xSt F9 (b + 1) ((aSe A).2) ∧ xBt F9 (b + 109) (nb1) (fb1) ∧ (∀ a9 : Nat, (a9 < b + 1 ∨ b + 1 + 49 ≤ a9) → (a9 < b + 109 ∨ b + 109 + 2 ≤ a9) → F9 a9 = F a9)) := by
  refine xM_i .int rfl (Nat.le_of_ble_eq_true rfl) (L0 := [some (.ref b), some (.ref (cm.2.1 7)), some (.int a), some (.int x)]) rfl rfl fun Θ hC hret => ?_
  have hag : ∀ a9 : Nat, (a9 < b + 1 ∨ b + 1 + 49 ≤ a9) → (a9 < b + 109 ∨ b + 109 + 2 ≤ a9) → F a9 = F a9 := fun a9 _ _ => rfl
  refine x_gets hC (v := .ref sm) hSM.1 (x_in (x_of (xtb_4 (List.mem_of_getElem? (i := 235) (by decide +kernel)))) (by decide +kernel)) d_MessageCoder_perform_0 ?_
  refine x_aload_n hC d_MessageCoder_perform_3 rfl rfl ?_
  refine x_ordinal hC (j := 7) (hCM.2.2.1 7 (by decide)) (hCM.2.2.2.2.2.1 7 (by decide)) (by decide) rfl (Nat.le_of_ble_eq_true rfl) (by decide) d_MessageCoder_perform_4 ?_
  refine x_sti hC hSM.2 (j := 7) ⟨rfl, by decide, by decide⟩ (x := (nI (8))) rfl d_MessageCoder_perform_7 ?_
  refine x_tableIn hC d_MessageCoder_perform_8 (by decide +kernel) (by decide +kernel) (off := 122) (by decide +kernel) (tgt := 130) (by decide) ?_
  refine x_aload_n hC d_MessageCoder_perform_130 rfl rfl ?_
  refine x_getf hC kf_MessageCoder_12 b0 rfl d_MessageCoder_perform_131 ?_
  refine x_aload_n hC d_MessageCoder_perform_134 rfl rfl ?_
  refine x_getf hC kf_MessageCoder_42 b0 rfl d_MessageCoder_perform_135 ?_
  refine x_callV hC kv_MessageCoder_444 (c_State_sendFirst (hs := hs) (hb := hbt) (hdb := by omega)) hs.1 rfl rfl (by decide) rfl rfl rfl (Nat.le_of_ble_eq_true rfl) (by decide) d_MessageCoder_perform_138 (fun r9 F9 z9 hp9 => ?_)
  obtain ⟨nb1_138, fb1_138, rfl, h9c, j0, j1, hag9⟩ := hp9
  rw [h9c]
  clear h9c z9
  generalize F9 = F1 at *
  have b0 : F1 (b) = some (.inl (9, [.ref (b + 1), .ref (b + 50), .ref (b + 99), .ref (b + 100), .ref (b + 107), .ref (b + 109), .ref (b + 111), .ref (b + 122), .ref (b + 124), .int (nI (sv)), .int (nI (pp)), .int (nI (un)), .int ep, .int fc])) := (hag9 _ (by omega) (by omega)).trans b0
  have hs : xSt F1 ((b + 1)) ((aSe A).2) := j0
  have hbt : xBt F1 ((b + 109)) (nb1_138) (fb1_138) := j1
  have hag : ∀ a9 : Nat, (a9 < b + 1 ∨ b + 1 + 49 ≤ a9) → (a9 < b + 109 ∨ b + 109 + 2 ≤ a9) → F1 a9 = F a9 := fun a9 q0 q1 => (hag9 a9 (by omega) (by omega)).trans (hag a9 q0 q1)
  have hg_138 := hag9
  clear hag9
  exact hret _ _ _ _ _ _ _ d_MessageCoder_perform_141 (by decide) (by decide) rfl (⟨_, _, rfl, rfl, hs, hbt, hag⟩)

set_option maxHeartbeats 4000000 in
set_option maxRecDepth 20000 in
theorem c_MessageCoder_perform8 {P : xP} {F : xF} {z : Nat} {b : Nat} {cm : cmT} {sm : Nat} {sv : Nat} {pp : Nat} {un : Nat} {ep : Int32} {fc : Int32} {A : aS} {nb : Nat} {fb9 : Nat → Nat} {a : Int32} {x : Int32} (b0 : F (b) = some (.inl (9, [.ref (b + 1), .ref (b + 50), .ref (b + 99), .ref (b + 100), .ref (b + 107), .ref (b + 109), .ref (b + 111), .ref (b + 122), .ref (b + 124), .int (nI (sv)), .int (nI (pp)), .int (nI (un)), .int ep, .int fc]))) (hs : xSt F (b + 1) (A)) (hbt : xBt F (b + 109) (nb) (fb9)) (hCM : xCM P cm) (hSM : xSM P sm) : xM P xy_MessageCoder_perform [.ref b, .ref (cm.2.1 8), .int a, .int x] F (z) 0 0 (fun r9 F9 z9 => ∃ nb1 : Nat, ∃ fb1 : Nat → Nat, r9 = some (.int ((aFl A a).1)) ∧ z9 = z ∧ xSt F9 (b + 1) ((aFl A a).2) ∧ xBt F9 (b + 109) (nb1) (fb1) ∧ (∀ a9 : Nat, (a9 < b + 1 ∨ b + 1 + 49 ≤ a9) → (a9 < b + 109 ∨ b + 109 + 2 ≤ a9) → F9 a9 = F a9)) := by
  refine xM_i .int rfl (Nat.le_of_ble_eq_true rfl) (L0 := [some (.ref b), some (.ref (cm.2.1 8)), some (.int a), some (.int x)]) rfl rfl fun Θ hC hret => ?_
  have hag : ∀ a9 : Nat, (a9 < b + 1 ∨ b + 1 + 49 ≤ a9) → (a9 < b + 109 ∨ b + 109 + 2 ≤ a9) → F a9 = F a9 := fun a9 _ _ => rfl
  refine x_gets hC (v := .ref sm) hSM.1 (x_in (x_of (xtb_4 (List.mem_of_getElem? (i := 235) (by decide +kernel)))) (by decide +kernel)) d_MessageCoder_perform_0 ?_
  refine x_aload_n hC d_MessageCoder_perform_3 rfl rfl ?_
  refine x_ordinal hC (j := 8) (hCM.2.2.1 8 (by decide)) (hCM.2.2.2.2.2.1 8 (by decide)) (by decide) rfl (Nat.le_of_ble_eq_true rfl) (by decide) d_MessageCoder_perform_4 ?_
  refine x_sti hC hSM.2 (j := 8) ⟨rfl, by decide, by decide⟩ (x := (nI (9))) rfl d_MessageCoder_perform_7 ?_
  refine x_tableIn hC d_MessageCoder_perform_8 (by decide +kernel) (by decide +kernel) (off := 134) (by decide +kernel) (tgt := 142) (by decide) ?_
  refine x_aload_n hC d_MessageCoder_perform_142 rfl rfl ?_
  refine x_getf hC kf_MessageCoder_12 b0 rfl d_MessageCoder_perform_143 ?_
  refine x_iload_n hC d_MessageCoder_perform_146 rfl rfl ?_
  refine x_callV hC kv_MessageCoder_448 (c_State_flipBit (hs := hs)) hs.1 rfl rfl (by decide) rfl rfl rfl (Nat.le_of_ble_eq_true rfl) (by decide) d_MessageCoder_perform_147 (fun r9 F9 z9 hp9 => ?_)
  obtain ⟨rfl, h9c, j0, hag9⟩ := hp9
  rw [h9c]
  clear h9c z9
  generalize F9 = F1 at *
  have b0 : F1 (b) = some (.inl (9, [.ref (b + 1), .ref (b + 50), .ref (b + 99), .ref (b + 100), .ref (b + 107), .ref (b + 109), .ref (b + 111), .ref (b + 122), .ref (b + 124), .int (nI (sv)), .int (nI (pp)), .int (nI (un)), .int ep, .int fc])) := (hag9 _ (by omega)).trans b0
  have hbt : xBt F1 (b + 109) (nb) (fb9) := xBt_fr hbt (fun a9 q1 q2 => hag9 a9 (by omega))
  have hs : xSt F1 ((b + 1)) ((aFl A a).2) := j0
  have hag : ∀ a9 : Nat, (a9 < b + 1 ∨ b + 1 + 49 ≤ a9) → (a9 < b + 109 ∨ b + 109 + 2 ≤ a9) → F1 a9 = F a9 := fun a9 q0 q1 => (hag9 a9 (by omega)).trans (hag a9 q0 q1)
  have hg_147 := hag9
  clear hag9
  exact hret _ _ _ _ _ _ _ d_MessageCoder_perform_150 (by decide) (by decide) rfl (⟨_, _, rfl, rfl, hs, hbt, hag⟩)

set_option maxHeartbeats 4000000 in
set_option maxRecDepth 20000 in
theorem c_MessageCoder_perform9 {P : xP} {F : xF} {z : Nat} {b : Nat} {cm : cmT} {sm : Nat} {sv : Nat} {pp : Nat} {un : Nat} {ep : Int32} {fc : Int32} {A : aS} {nb : Nat} {fb9 : Nat → Nat} {a : Int32} {x : Int32} (b0 : F (b) = some (.inl (9, [.ref (b + 1), .ref (b + 50), .ref (b + 99), .ref (b + 100), .ref (b + 107), .ref (b + 109), .ref (b + 111), .ref (b + 122), .ref (b + 124), .int (nI (sv)), .int (nI (pp)), .int (nI (un)), .int ep, .int fc]))) (hs : xSt F (b + 1) (A)) (hbt : xBt F (b + 109) (nb) (fb9)) (hCM : xCM P cm) (hSM : xSM P sm) : xM P xy_MessageCoder_perform [.ref b, .ref (cm.2.1 9), .int a, .int x] F (z) 0 0 (fun r9 F9 z9 => ∃ nb1 : Nat, ∃ fb1 : Nat → Nat, r9 = some (.int ((aRe A).1)) ∧ z9 = z ∧ xSt F9 (b + 1) ((aRe A).2) ∧ xBt F9 (b + 109) (nb1) (fb1) ∧ (∀ a9 : Nat, (a9 < b + 1 ∨ b + 1 + 49 ≤ a9) → (a9 < b + 109 ∨ b + 109 + 2 ≤ a9) → F9 a9 = F a9)) := by
  refine xM_i .int rfl (Nat.le_of_ble_eq_true rfl) (L0 := [some (.ref b), some (.ref (cm.2.1 9)), some (.int a), some (.int x)]) rfl rfl fun Θ hC hret => ?_
  have hag : ∀ a9 : Nat, (a9 < b + 1 ∨ b + 1 + 49 ≤ a9) → (a9 < b + 109 ∨ b + 109 + 2 ≤ a9) → F a9 = F a9 := fun a9 _ _ => rfl
  refine x_gets hC (v := .ref sm) hSM.1 (x_in (x_of (xtb_4 (List.mem_of_getElem? (i := 235) (by decide +kernel)))) (by decide +kernel)) d_MessageCoder_perform_0 ?_
  refine x_aload_n hC d_MessageCoder_perform_3 rfl rfl ?_
  refine x_ordinal hC (j := 9) (hCM.2.2.1 9 (by decide)) (hCM.2.2.2.2.2.1 9 (by decide)) (by decide) rfl (Nat.le_of_ble_eq_true rfl) (by decide) d_MessageCoder_perform_4 ?_
  refine x_sti hC hSM.2 (j := 9) ⟨rfl, by decide, by decide⟩ (x := (nI (10))) rfl d_MessageCoder_perform_7 ?_
  refine x_tableIn hC d_MessageCoder_perform_8 (by decide +kernel) (by decide +kernel) (off := 143) (by decide +kernel) (tgt := 151) (by decide) ?_
  refine x_aload_n hC d_MessageCoder_perform_151 rfl rfl ?_
  refine x_getf hC kf_MessageCoder_12 b0 rfl d_MessageCoder_perform_152 ?_
  refine x_callV hC kv_MessageCoder_451 (c_State_receiveFrame (hs := hs)) hs.1 rfl rfl (by decide) rfl rfl rfl (Nat.le_of_ble_eq_true rfl) (by decide) d_MessageCoder_perform_155 (fun r9 F9 z9 hp9 => ?_)
  obtain ⟨rfl, h9c, j0, hag9⟩ := hp9
  rw [h9c]
  clear h9c z9
  generalize F9 = F1 at *
  have b0 : F1 (b) = some (.inl (9, [.ref (b + 1), .ref (b + 50), .ref (b + 99), .ref (b + 100), .ref (b + 107), .ref (b + 109), .ref (b + 111), .ref (b + 122), .ref (b + 124), .int (nI (sv)), .int (nI (pp)), .int (nI (un)), .int ep, .int fc])) := (hag9 _ (by omega)).trans b0
  have hbt : xBt F1 (b + 109) (nb) (fb9) := xBt_fr hbt (fun a9 q1 q2 => hag9 a9 (by omega))
  have hs : xSt F1 ((b + 1)) ((aRe A).2) := j0
  have hag : ∀ a9 : Nat, (a9 < b + 1 ∨ b + 1 + 49 ≤ a9) → (a9 < b + 109 ∨ b + 109 + 2 ≤ a9) → F1 a9 = F a9 := fun a9 q0 q1 => (hag9 a9 (by omega)).trans (hag a9 q0 q1)
  have hg_155 := hag9
  clear hag9
  exact hret _ _ _ _ _ _ _ d_MessageCoder_perform_158 (by decide) (by decide) rfl (⟨_, _, rfl, rfl, hs, hbt, hag⟩)

theorem d_MessageCoder_change_0 : decode prog_1_method_70_code 0 = .ok (.aload_n 0, 1) := by decide +kernel
theorem d_MessageCoder_change_1 : decode prog_1_method_70_code 1 = .ok (.invokevirtual 404, 3) := by decide +kernel
theorem d_MessageCoder_change_4 : decode prog_1_method_70_code 4 = .ok (.aload_n 0, 1) := by decide +kernel
theorem d_MessageCoder_change_5 : decode prog_1_method_70_code 5 = .ok (.aload_n 1, 1) := by decide +kernel
theorem d_MessageCoder_change_6 : decode prog_1_method_70_code 6 = .ok (.iload_n 2, 1) := by decide +kernel
theorem d_MessageCoder_change_7 : decode prog_1_method_70_code 7 = .ok (.iload_n 3, 1) := by decide +kernel
theorem d_MessageCoder_change_8 : decode prog_1_method_70_code 8 = .ok (.invokevirtual 407, 3) := by decide +kernel
theorem d_MessageCoder_change_11 : decode prog_1_method_70_code 11 = .ok (.istore 4, 2) := by decide +kernel
theorem d_MessageCoder_change_13 : decode prog_1_method_70_code 13 = .ok (.iload 4, 2) := by decide +kernel
theorem d_MessageCoder_change_15 : decode prog_1_method_70_code 15 = .ok (.ifCond .lt 7, 3) := by decide +kernel
theorem d_MessageCoder_change_18 : decode prog_1_method_70_code 18 = .ok (.aload_n 0, 1) := by decide +kernel
theorem d_MessageCoder_change_19 : decode prog_1_method_70_code 19 = .ok (.invokevirtual 410, 3) := by decide +kernel
theorem d_MessageCoder_change_22 : decode prog_1_method_70_code 22 = .ok (.iload 4, 2) := by decide +kernel
theorem d_MessageCoder_change_24 : decode prog_1_method_70_code 24 = .ok (.ireturn, 1) := by decide +kernel
set_option maxHeartbeats 4000000 in
set_option maxRecDepth 20000 in
theorem c_MessageCoder_change0 {P : xP} {F : xF} {z : Nat} {b : Nat} {cm : cmT} {sm : Nat} {sv : Nat} {pp : Nat} {un : Nat} {ep : Int32} {fc : Int32} {A : aS} {nb : Nat} {fb9 : Nat → Nat} {pf : Nat → Value} {past : Nat → aS} {c : Nat} {x : Int32} (b0 : F (b) = some (.inl (9, [.ref (b + 1), .ref (b + 50), .ref (b + 99), .ref (b + 100), .ref (b + 107), .ref (b + 109), .ref (b + 111), .ref (b + 122), .ref (b + 124), .int (nI (sv)), .int (nI (pp)), .int (nI (un)), .int ep, .int fc]))) (hs : xSt F (b + 1) (A)) (hbt : xBt F (b + 109) (nb) (fb9)) (hpa : F (b + 99) = some (.inr (4, 9, pf))) (hps : xPs F (b) (past)) (hCM : xCM P cm) (hSM : xSM P sm) (hpf : ∀ i, i < 9 → pf i = .ref (b + 125 + 49 * i)) (hpp : pp < 100000) (hun : un < 100000) (hc0 : c < 65536) : xM P xy_MessageCoder_change [.ref b, .ref (cm.2.1 0), .int (nI (c)), .int x] F (z) 0 0 (fun r9 F9 z9 => ∃ nb1 : Nat, ∃ fb1 : Nat → Nat, r9 = some (.int ((aWt A c x).1)) ∧ z9 = z ∧ F9 (b) = some (.inl (9, [.ref (b + 1), .ref (b + 50), .ref (b + 99), .ref (b + 100), .ref (b + 107), .ref (b + 109), .ref (b + 111), .ref (b + 122), .ref (b + 124), .int (nI (sv)), .int (nI (chP (aWt A c x).1 pp)), .int (nI (chU (aWt A c x).1 un)), .int ep, .int fc])) ∧ xSt F9 (b + 1) ((aWt A c x).2) ∧ xBt F9 (b + 109) (nb1) (fb1) ∧ xPs F9 (b) ((updA past (pp % 9) A)) ∧ (∀ a9 : Nat, (a9 < b ∨ b + 1 ≤ a9) → (a9 < b + 1 ∨ b + 1 + 49 ≤ a9) → (a9 < b + 109 ∨ b + 109 + 2 ≤ a9) → (a9 < b + 125 ∨ b + 125 + 441 ≤ a9) → F9 a9 = F a9)) := by
  refine xM_i .int rfl (Nat.le_of_ble_eq_true rfl) (L0 := [some (.ref b), some (.ref (cm.2.1 0)), some (.int (nI (c))), some (.int x), none]) rfl rfl fun Θ hC hret => ?_
  have hag : ∀ a9 : Nat, (a9 < b ∨ b + 1 ≤ a9) → (a9 < b + 1 ∨ b + 1 + 49 ≤ a9) → (a9 < b + 109 ∨ b + 109 + 2 ≤ a9) → (a9 < b + 125 ∨ b + 125 + 441 ≤ a9) → F a9 = F a9 := fun a9 _ _ _ _ => rfl
  refine x_aload_n hC d_MessageCoder_change_0 rfl rfl ?_
  refine x_callV hC kv_MessageCoder_404 (c_MessageCoder_keepBefore (b0 := b0) (hpa := hpa) (hs := hs) (hps := hps) (hpf := hpf) (hpp := by omega)) b0 rfl rfl (by decide) rfl rfl rfl (Nat.le_of_ble_eq_true rfl) (by decide) d_MessageCoder_change_1 (fun r9 F9 z9 hp9 => ?_)
  obtain ⟨rfl, h9c, j0, hag9⟩ := hp9
  rw [h9c]
  clear h9c z9
  generalize F9 = F1 at *
  have b0 : F1 (b) = some (.inl (9, [.ref (b + 1), .ref (b + 50), .ref (b + 99), .ref (b + 100), .ref (b + 107), .ref (b + 109), .ref (b + 111), .ref (b + 122), .ref (b + 124), .int (nI (sv)), .int (nI (pp)), .int (nI (un)), .int ep, .int fc])) := (hag9 _ (by omega)).trans b0
  have hs : xSt F1 (b + 1) (A) := xSt_fr hs (fun a9 q1 q2 => hag9 a9 (by omega))
  have hbt : xBt F1 (b + 109) (nb) (fb9) := xBt_fr hbt (fun a9 q1 q2 => hag9 a9 (by omega))
  have hpa : F1 (b + 99) = some (.inr (4, 9, pf)) := (hag9 _ (by omega)).trans hpa
  have hps : xPs F1 (b) ((updA past (pp % 9) A)) := j0
  have hag : ∀ a9 : Nat, (a9 < b ∨ b + 1 ≤ a9) → (a9 < b + 1 ∨ b + 1 + 49 ≤ a9) → (a9 < b + 109 ∨ b + 109 + 2 ≤ a9) → (a9 < b + 125 ∨ b + 125 + 441 ≤ a9) → F1 a9 = F a9 := fun a9 q0 q1 q2 q3 => (hag9 a9 (by omega)).trans (hag a9 q0 q1 q2 q3)
  have hg_1 := hag9
  clear hag9
  refine x_aload_n hC d_MessageCoder_change_4 rfl rfl ?_
  refine x_aload_n hC d_MessageCoder_change_5 rfl rfl ?_
  refine x_iload_n hC d_MessageCoder_change_6 rfl rfl ?_
  refine x_iload_n hC d_MessageCoder_change_7 rfl rfl ?_
  refine x_callV hC kv_MessageCoder_407 (c_MessageCoder_perform0 (b0 := b0) (hs := hs) (hbt := hbt) (hCM := hCM) (hSM := hSM) (hc0 := by omega)) b0 rfl rfl (by decide) rfl rfl rfl (Nat.le_of_ble_eq_true rfl) (by decide) d_MessageCoder_change_8 (fun r9 F9 z9 hp9 => ?_)
  obtain ⟨nb1_8, fb1_8, rfl, h9c, j0, j1, hag9⟩ := hp9
  rw [h9c]
  clear h9c z9
  generalize F9 = F2 at *
  have b0 : F2 (b) = some (.inl (9, [.ref (b + 1), .ref (b + 50), .ref (b + 99), .ref (b + 100), .ref (b + 107), .ref (b + 109), .ref (b + 111), .ref (b + 122), .ref (b + 124), .int (nI (sv)), .int (nI (pp)), .int (nI (un)), .int ep, .int fc])) := (hag9 _ (by omega) (by omega)).trans b0
  have hpa : F2 (b + 99) = some (.inr (4, 9, pf)) := (hag9 _ (by omega) (by omega)).trans hpa
  have hps : xPs F2 (b) ((updA past (pp % 9) A)) := xPs_fr hps (fun a9 q1 q2 => hag9 a9 (by omega) (by omega))
  have hs : xSt F2 (b + 1) ((aWt A c x).2) := j0
  have hbt : xBt F2 (b + 109) (nb1_8) (fb1_8) := j1
  have hag : ∀ a9 : Nat, (a9 < b ∨ b + 1 ≤ a9) → (a9 < b + 1 ∨ b + 1 + 49 ≤ a9) → (a9 < b + 109 ∨ b + 109 + 2 ≤ a9) → (a9 < b + 125 ∨ b + 125 + 441 ≤ a9) → F2 a9 = F a9 := fun a9 q0 q1 q2 q3 => (hag9 a9 (by omega) (by omega)).trans (hag a9 q0 q1 q2 q3)
  have hg_8 := hag9
  clear hag9
  refine x_istore hC d_MessageCoder_change_11 (Nat.le_of_ble_eq_true rfl) (L1 := [some (.ref b), some (.ref (cm.2.1 0)), some (.int (nI (c))), some (.int x), some (.int ((aWt A c x).1))]) rfl ?_
  refine x_iload hC d_MessageCoder_change_13 rfl ?_
  refine x_if_lt hC d_MessageCoder_change_15 (tgt := 22) (by decide) (fun c_15 => ?_) (fun c_15 => ?_)
  · skip
    refine x_iload hC d_MessageCoder_change_22 rfl ?_
    refine hret _ _ _ _ _ _ _ d_MessageCoder_change_24 (by decide) (by decide) rfl ?_
    have e1_ : chP (aWt A c x).1 pp = pp := if_pos c_15
    have e2_ : chU (aWt A c x).1 un = un := if_pos c_15
    exact ⟨_, _, rfl, rfl, by rw [e1_, e2_]; exact b0, hs, hbt, hps, hag⟩
  · skip
    refine x_aload_n hC d_MessageCoder_change_18 rfl rfl ?_
    refine x_callV hC kv_MessageCoder_410 (c_MessageCoder_countChange (b0 := b0) (hpp := by omega) (hun := by omega)) b0 rfl rfl (by decide) rfl rfl rfl (Nat.le_of_ble_eq_true rfl) (by decide) d_MessageCoder_change_19 (fun r9 F9 z9 hp9 => ?_)
    obtain ⟨rfl, h9c, j0, hag9⟩ := hp9
    rw [h9c]
    clear h9c z9
    generalize F9 = F3 at *
    have hpa : F3 (b + 99) = some (.inr (4, 9, pf)) := (hag9 _ (by omega)).trans hpa
    have hps : xPs F3 (b) ((updA past (pp % 9) A)) := xPs_fr hps (fun a9 q1 q2 => hag9 a9 (by omega))
    have hs : xSt F3 (b + 1) ((aWt A c x).2) := xSt_fr hs (fun a9 q1 q2 => hag9 a9 (by omega))
    have hbt : xBt F3 (b + 109) (nb1_8) (fb1_8) := xBt_fr hbt (fun a9 q1 q2 => hag9 a9 (by omega))
    have b0 : F3 (b) = some (.inl (9, [.ref (b + 1), .ref (b + 50), .ref (b + 99), .ref (b + 100), .ref (b + 107), .ref (b + 109), .ref (b + 111), .ref (b + 122), .ref (b + 124), .int (nI (sv)), .int (nI (pp + 1)), .int (nI (un1 un)), .int ep, .int fc])) := j0
    have hag : ∀ a9 : Nat, (a9 < b ∨ b + 1 ≤ a9) → (a9 < b + 1 ∨ b + 1 + 49 ≤ a9) → (a9 < b + 109 ∨ b + 109 + 2 ≤ a9) → (a9 < b + 125 ∨ b + 125 + 441 ≤ a9) → F3 a9 = F a9 := fun a9 q0 q1 q2 q3 => (hag9 a9 (by omega)).trans (hag a9 q0 q1 q2 q3)
    have hg_19 := hag9
    clear hag9
    refine x_iload hC d_MessageCoder_change_22 rfl ?_
    refine hret _ _ _ _ _ _ _ d_MessageCoder_change_24 (by decide) (by decide) rfl ?_
    have e1_ : chP (aWt A c x).1 pp = pp + 1 := if_neg c_15
    have e2_ : chU (aWt A c x).1 un = un1 un := if_neg c_15
    exact ⟨_, _, rfl, rfl, by rw [e1_, e2_]; exact b0, hs, hbt, hps, hag⟩

set_option maxHeartbeats 4000000 in
set_option maxRecDepth 20000 in
theorem c_MessageCoder_change1 {P : xP} {F : xF} {z : Nat} {b : Nat} {cm : cmT} {sm : Nat} {sv : Nat} {pp : Nat} {un : Nat} {ep : Int32} {fc : Int32} {A : aS} {nb : Nat} {fb9 : Nat → Nat} {pf : Nat → Value} {past : Nat → aS} {c : Nat} {x : Int32} (b0 : F (b) = some (.inl (9, [.ref (b + 1), .ref (b + 50), .ref (b + 99), .ref (b + 100), .ref (b + 107), .ref (b + 109), .ref (b + 111), .ref (b + 122), .ref (b + 124), .int (nI (sv)), .int (nI (pp)), .int (nI (un)), .int ep, .int fc]))) (hs : xSt F (b + 1) (A)) (hbt : xBt F (b + 109) (nb) (fb9)) (hpa : F (b + 99) = some (.inr (4, 9, pf))) (hps : xPs F (b) (past)) (hCM : xCM P cm) (hSM : xSM P sm) (hpf : ∀ i, i < 9 → pf i = .ref (b + 125 + 49 * i)) (hpp : pp < 100000) (hun : un < 100000) (hc0 : c < 65536) : xM P xy_MessageCoder_change [.ref b, .ref (cm.2.1 1), .int (nI (c)), .int x] F (z) 0 0 (fun r9 F9 z9 => ∃ nb1 : Nat, ∃ fb1 : Nat → Nat, r9 = some (.int ((aDr A c).1)) ∧ z9 = z ∧ F9 (b) = some (.inl (9, [.ref (b + 1), .ref (b + 50), .ref (b + 99), .ref (b + 100), .ref (b + 107), .ref (b + 109), .ref (b + 111), .ref (b + 122), .ref (b + 124), .int (nI (sv)), .int (nI (chP (aDr A c).1 pp)), .int (nI (chU (aDr A c).1 un)), .int ep, .int fc])) ∧ xSt F9 (b + 1) ((aDr A c).2) ∧ xBt F9 (b + 109) (nb1) (fb1) ∧ xPs F9 (b) ((updA past (pp % 9) A)) ∧ (∀ a9 : Nat, (a9 < b ∨ b + 1 ≤ a9) → (a9 < b + 1 ∨ b + 1 + 49 ≤ a9) → (a9 < b + 109 ∨ b + 109 + 2 ≤ a9) → (a9 < b + 125 ∨ b + 125 + 441 ≤ a9) → F9 a9 = F a9)) := by
  refine xM_i .int rfl (Nat.le_of_ble_eq_true rfl) (L0 := [some (.ref b), some (.ref (cm.2.1 1)), some (.int (nI (c))), some (.int x), none]) rfl rfl fun Θ hC hret => ?_
  have hag : ∀ a9 : Nat, (a9 < b ∨ b + 1 ≤ a9) → (a9 < b + 1 ∨ b + 1 + 49 ≤ a9) → (a9 < b + 109 ∨ b + 109 + 2 ≤ a9) → (a9 < b + 125 ∨ b + 125 + 441 ≤ a9) → F a9 = F a9 := fun a9 _ _ _ _ => rfl
  refine x_aload_n hC d_MessageCoder_change_0 rfl rfl ?_
  refine x_callV hC kv_MessageCoder_404 (c_MessageCoder_keepBefore (b0 := b0) (hpa := hpa) (hs := hs) (hps := hps) (hpf := hpf) (hpp := by omega)) b0 rfl rfl (by decide) rfl rfl rfl (Nat.le_of_ble_eq_true rfl) (by decide) d_MessageCoder_change_1 (fun r9 F9 z9 hp9 => ?_)
  obtain ⟨rfl, h9c, j0, hag9⟩ := hp9
  rw [h9c]
  clear h9c z9
  generalize F9 = F1 at *
  have b0 : F1 (b) = some (.inl (9, [.ref (b + 1), .ref (b + 50), .ref (b + 99), .ref (b + 100), .ref (b + 107), .ref (b + 109), .ref (b + 111), .ref (b + 122), .ref (b + 124), .int (nI (sv)), .int (nI (pp)), .int (nI (un)), .int ep, .int fc])) := (hag9 _ (by omega)).trans b0
  have hs : xSt F1 (b + 1) (A) := xSt_fr hs (fun a9 q1 q2 => hag9 a9 (by omega))
  have hbt : xBt F1 (b + 109) (nb) (fb9) := xBt_fr hbt (fun a9 q1 q2 => hag9 a9 (by omega))
  have hpa : F1 (b + 99) = some (.inr (4, 9, pf)) := (hag9 _ (by omega)).trans hpa
  have hps : xPs F1 (b) ((updA past (pp % 9) A)) := j0
  have hag : ∀ a9 : Nat, (a9 < b ∨ b + 1 ≤ a9) → (a9 < b + 1 ∨ b + 1 + 49 ≤ a9) → (a9 < b + 109 ∨ b + 109 + 2 ≤ a9) → (a9 < b + 125 ∨ b + 125 + 441 ≤ a9) → F1 a9 = F a9 := fun a9 q0 q1 q2 q3 => (hag9 a9 (by omega)).trans (hag a9 q0 q1 q2 q3)
  have hg_1 := hag9
  clear hag9
  refine x_aload_n hC d_MessageCoder_change_4 rfl rfl ?_
  refine x_aload_n hC d_MessageCoder_change_5 rfl rfl ?_
  refine x_iload_n hC d_MessageCoder_change_6 rfl rfl ?_
  refine x_iload_n hC d_MessageCoder_change_7 rfl rfl ?_
  refine x_callV hC kv_MessageCoder_407 (c_MessageCoder_perform1 (b0 := b0) (hs := hs) (hbt := hbt) (hCM := hCM) (hSM := hSM) (hc0 := by omega)) b0 rfl rfl (by decide) rfl rfl rfl (Nat.le_of_ble_eq_true rfl) (by decide) d_MessageCoder_change_8 (fun r9 F9 z9 hp9 => ?_)
  obtain ⟨nb1_8, fb1_8, rfl, h9c, j0, j1, hag9⟩ := hp9
  rw [h9c]
  clear h9c z9
  generalize F9 = F2 at *
  have b0 : F2 (b) = some (.inl (9, [.ref (b + 1), .ref (b + 50), .ref (b + 99), .ref (b + 100), .ref (b + 107), .ref (b + 109), .ref (b + 111), .ref (b + 122), .ref (b + 124), .int (nI (sv)), .int (nI (pp)), .int (nI (un)), .int ep, .int fc])) := (hag9 _ (by omega) (by omega)).trans b0
  have hpa : F2 (b + 99) = some (.inr (4, 9, pf)) := (hag9 _ (by omega) (by omega)).trans hpa
  have hps : xPs F2 (b) ((updA past (pp % 9) A)) := xPs_fr hps (fun a9 q1 q2 => hag9 a9 (by omega) (by omega))
  have hs : xSt F2 (b + 1) ((aDr A c).2) := j0
  have hbt : xBt F2 (b + 109) (nb1_8) (fb1_8) := j1
  have hag : ∀ a9 : Nat, (a9 < b ∨ b + 1 ≤ a9) → (a9 < b + 1 ∨ b + 1 + 49 ≤ a9) → (a9 < b + 109 ∨ b + 109 + 2 ≤ a9) → (a9 < b + 125 ∨ b + 125 + 441 ≤ a9) → F2 a9 = F a9 := fun a9 q0 q1 q2 q3 => (hag9 a9 (by omega) (by omega)).trans (hag a9 q0 q1 q2 q3)
  have hg_8 := hag9
  clear hag9
  refine x_istore hC d_MessageCoder_change_11 (Nat.le_of_ble_eq_true rfl) (L1 := [some (.ref b), some (.ref (cm.2.1 1)), some (.int (nI (c))), some (.int x), some (.int ((aDr A c).1))]) rfl ?_
  refine x_iload hC d_MessageCoder_change_13 rfl ?_
  refine x_if_lt hC d_MessageCoder_change_15 (tgt := 22) (by decide) (fun c_15 => ?_) (fun c_15 => ?_)
  · skip
    refine x_iload hC d_MessageCoder_change_22 rfl ?_
    refine hret _ _ _ _ _ _ _ d_MessageCoder_change_24 (by decide) (by decide) rfl ?_
    have e1_ : chP (aDr A c).1 pp = pp := if_pos c_15
    have e2_ : chU (aDr A c).1 un = un := if_pos c_15
    exact ⟨_, _, rfl, rfl, by rw [e1_, e2_]; exact b0, hs, hbt, hps, hag⟩
  · skip
    refine x_aload_n hC d_MessageCoder_change_18 rfl rfl ?_
    refine x_callV hC kv_MessageCoder_410 (c_MessageCoder_countChange (b0 := b0) (hpp := by omega) (hun := by omega)) b0 rfl rfl (by decide) rfl rfl rfl (Nat.le_of_ble_eq_true rfl) (by decide) d_MessageCoder_change_19 (fun r9 F9 z9 hp9 => ?_)
    obtain ⟨rfl, h9c, j0, hag9⟩ := hp9
    rw [h9c]
    clear h9c z9
    generalize F9 = F3 at *
    have hpa : F3 (b + 99) = some (.inr (4, 9, pf)) := (hag9 _ (by omega)).trans hpa
    have hps : xPs F3 (b) ((updA past (pp % 9) A)) := xPs_fr hps (fun a9 q1 q2 => hag9 a9 (by omega))
    have hs : xSt F3 (b + 1) ((aDr A c).2) := xSt_fr hs (fun a9 q1 q2 => hag9 a9 (by omega))
    have hbt : xBt F3 (b + 109) (nb1_8) (fb1_8) := xBt_fr hbt (fun a9 q1 q2 => hag9 a9 (by omega))
    have b0 : F3 (b) = some (.inl (9, [.ref (b + 1), .ref (b + 50), .ref (b + 99), .ref (b + 100), .ref (b + 107), .ref (b + 109), .ref (b + 111), .ref (b + 122), .ref (b + 124), .int (nI (sv)), .int (nI (pp + 1)), .int (nI (un1 un)), .int ep, .int fc])) := j0
    have hag : ∀ a9 : Nat, (a9 < b ∨ b + 1 ≤ a9) → (a9 < b + 1 ∨ b + 1 + 49 ≤ a9) → (a9 < b + 109 ∨ b + 109 + 2 ≤ a9) → (a9 < b + 125 ∨ b + 125 + 441 ≤ a9) → F3 a9 = F a9 := fun a9 q0 q1 q2 q3 => (hag9 a9 (by omega)).trans (hag a9 q0 q1 q2 q3)
    have hg_19 := hag9
    clear hag9
    refine x_iload hC d_MessageCoder_change_22 rfl ?_
    refine hret _ _ _ _ _ _ _ d_MessageCoder_change_24 (by decide) (by decide) rfl ?_
    have e1_ : chP (aDr A c).1 pp = pp + 1 := if_neg c_15
    have e2_ : chU (aDr A c).1 un = un1 un := if_neg c_15
    exact ⟨_, _, rfl, rfl, by rw [e1_, e2_]; exact b0, hs, hbt, hps, hag⟩

set_option maxHeartbeats 4000000 in
set_option maxRecDepth 20000 in
theorem c_MessageCoder_change3 {P : xP} {F : xF} {z : Nat} {b : Nat} {cm : cmT} {sm : Nat} {sv : Nat} {pp : Nat} {un : Nat} {ep : Int32} {fc : Int32} {A : aS} {nb : Nat} {fb9 : Nat → Nat} {pf : Nat → Value} {past : Nat → aS} {a : Int32} {x : Int32} (b0 : F (b) = some (.inl (9, [.ref (b + 1), .ref (b + 50), .ref (b + 99), .ref (b + 100), .ref (b + 107), .ref (b + 109), .ref (b + 111), .ref (b + 122), .ref (b + 124), .int (nI (sv)), .int (nI (pp)), .int (nI (un)), .int ep, .int fc]))) (hs : xSt F (b + 1) (A)) (hbt : xBt F (b + 109) (nb) (fb9)) (hpa : F (b + 99) = some (.inr (4, 9, pf))) (hps : xPs F (b) (past)) (hCM : xCM P cm) (hSM : xSM P sm) (hpf : ∀ i, i < 9 → pf i = .ref (b + 125 + 49 * i)) (hpp : pp < 100000) (hun : un < 100000) (hnx : A.2.2.1.2.1 < 999) : xM P xy_MessageCoder_change [.ref b, .ref (cm.2.1 3), .int a, .int x] F (z) 0 0 (fun r9 F9 z9 => ∃ nb1 : Nat, ∃ fb1 : Nat → Nat, r9 = some (.int ((aPo A a).1)) ∧ z9 = z ∧ F9 (b) = some (.inl (9, [.ref (b + 1), .ref (b + 50), .ref (b + 99), .ref (b + 100), .ref (b + 107), .ref (b + 109), .ref (b + 111), .ref (b + 122), .ref (b + 124), .int (nI (sv)), .int (nI (chP (aPo A a).1 pp)), .int (nI (chU (aPo A a).1 un)), .int ep, .int fc])) ∧ xSt F9 (b + 1) ((aPo A a).2) ∧ xBt F9 (b + 109) (nb1) (fb1) ∧ xPs F9 (b) ((updA past (pp % 9) A)) ∧ (∀ a9 : Nat, (a9 < b ∨ b + 1 ≤ a9) → (a9 < b + 1 ∨ b + 1 + 49 ≤ a9) → (a9 < b + 109 ∨ b + 109 + 2 ≤ a9) → (a9 < b + 125 ∨ b + 125 + 441 ≤ a9) → F9 a9 = F a9)) := by
  refine xM_i .int rfl (Nat.le_of_ble_eq_true rfl) (L0 := [some (.ref b), some (.ref (cm.2.1 3)), some (.int a), some (.int x), none]) rfl rfl fun Θ hC hret => ?_
  have hag : ∀ a9 : Nat, (a9 < b ∨ b + 1 ≤ a9) → (a9 < b + 1 ∨ b + 1 + 49 ≤ a9) → (a9 < b + 109 ∨ b + 109 + 2 ≤ a9) → (a9 < b + 125 ∨ b + 125 + 441 ≤ a9) → F a9 = F a9 := fun a9 _ _ _ _ => rfl
  refine x_aload_n hC d_MessageCoder_change_0 rfl rfl ?_
  refine x_callV hC kv_MessageCoder_404 (c_MessageCoder_keepBefore (b0 := b0) (hpa := hpa) (hs := hs) (hps := hps) (hpf := hpf) (hpp := by omega)) b0 rfl rfl (by decide) rfl rfl rfl (Nat.le_of_ble_eq_true rfl) (by decide) d_MessageCoder_change_1 (fun r9 F9 z9 hp9 => ?_)
  obtain ⟨rfl, h9c, j0, hag9⟩ := hp9
  rw [h9c]
  clear h9c z9
  generalize F9 = F1 at *
  have b0 : F1 (b) = some (.inl (9, [.ref (b + 1), .ref (b + 50), .ref (b + 99), .ref (b + 100), .ref (b + 107), .ref (b + 109), .ref (b + 111), .ref (b + 122), .ref (b + 124), .int (nI (sv)), .int (nI (pp)), .int (nI (un)), .int ep, .int fc])) := (hag9 _ (by omega)).trans b0
  have hs : xSt F1 (b + 1) (A) := xSt_fr hs (fun a9 q1 q2 => hag9 a9 (by omega))
  have hbt : xBt F1 (b + 109) (nb) (fb9) := xBt_fr hbt (fun a9 q1 q2 => hag9 a9 (by omega))
  have hpa : F1 (b + 99) = some (.inr (4, 9, pf)) := (hag9 _ (by omega)).trans hpa
  have hps : xPs F1 (b) ((updA past (pp % 9) A)) := j0
  have hag : ∀ a9 : Nat, (a9 < b ∨ b + 1 ≤ a9) → (a9 < b + 1 ∨ b + 1 + 49 ≤ a9) → (a9 < b + 109 ∨ b + 109 + 2 ≤ a9) → (a9 < b + 125 ∨ b + 125 + 441 ≤ a9) → F1 a9 = F a9 := fun a9 q0 q1 q2 q3 => (hag9 a9 (by omega)).trans (hag a9 q0 q1 q2 q3)
  have hg_1 := hag9
  clear hag9
  refine x_aload_n hC d_MessageCoder_change_4 rfl rfl ?_
  refine x_aload_n hC d_MessageCoder_change_5 rfl rfl ?_
  refine x_iload_n hC d_MessageCoder_change_6 rfl rfl ?_
  refine x_iload_n hC d_MessageCoder_change_7 rfl rfl ?_
  refine x_callV hC kv_MessageCoder_407 (c_MessageCoder_perform3 (b0 := b0) (hs := hs) (hbt := hbt) (hCM := hCM) (hSM := hSM) (hnx := hnx)) b0 rfl rfl (by decide) rfl rfl rfl (Nat.le_of_ble_eq_true rfl) (by decide) d_MessageCoder_change_8 (fun r9 F9 z9 hp9 => ?_)
  obtain ⟨nb1_8, fb1_8, rfl, h9c, j0, j1, hag9⟩ := hp9
  rw [h9c]
  clear h9c z9
  generalize F9 = F2 at *
  have b0 : F2 (b) = some (.inl (9, [.ref (b + 1), .ref (b + 50), .ref (b + 99), .ref (b + 100), .ref (b + 107), .ref (b + 109), .ref (b + 111), .ref (b + 122), .ref (b + 124), .int (nI (sv)), .int (nI (pp)), .int (nI (un)), .int ep, .int fc])) := (hag9 _ (by omega) (by omega)).trans b0
  have hpa : F2 (b + 99) = some (.inr (4, 9, pf)) := (hag9 _ (by omega) (by omega)).trans hpa
  have hps : xPs F2 (b) ((updA past (pp % 9) A)) := xPs_fr hps (fun a9 q1 q2 => hag9 a9 (by omega) (by omega))
  have hs : xSt F2 (b + 1) ((aPo A a).2) := j0
  have hbt : xBt F2 (b + 109) (nb1_8) (fb1_8) := j1
  have hag : ∀ a9 : Nat, (a9 < b ∨ b + 1 ≤ a9) → (a9 < b + 1 ∨ b + 1 + 49 ≤ a9) → (a9 < b + 109 ∨ b + 109 + 2 ≤ a9) → (a9 < b + 125 ∨ b + 125 + 441 ≤ a9) → F2 a9 = F a9 := fun a9 q0 q1 q2 q3 => (hag9 a9 (by omega) (by omega)).trans (hag a9 q0 q1 q2 q3)
  have hg_8 := hag9
  clear hag9
  refine x_istore hC d_MessageCoder_change_11 (Nat.le_of_ble_eq_true rfl) (L1 := [some (.ref b), some (.ref (cm.2.1 3)), some (.int a), some (.int x), some (.int ((aPo A a).1))]) rfl ?_
  refine x_iload hC d_MessageCoder_change_13 rfl ?_
  refine x_if_lt hC d_MessageCoder_change_15 (tgt := 22) (by decide) (fun c_15 => ?_) (fun c_15 => ?_)
  · skip
    refine x_iload hC d_MessageCoder_change_22 rfl ?_
    refine hret _ _ _ _ _ _ _ d_MessageCoder_change_24 (by decide) (by decide) rfl ?_
    have e1_ : chP (aPo A a).1 pp = pp := if_pos c_15
    have e2_ : chU (aPo A a).1 un = un := if_pos c_15
    exact ⟨_, _, rfl, rfl, by rw [e1_, e2_]; exact b0, hs, hbt, hps, hag⟩
  · skip
    refine x_aload_n hC d_MessageCoder_change_18 rfl rfl ?_
    refine x_callV hC kv_MessageCoder_410 (c_MessageCoder_countChange (b0 := b0) (hpp := by omega) (hun := by omega)) b0 rfl rfl (by decide) rfl rfl rfl (Nat.le_of_ble_eq_true rfl) (by decide) d_MessageCoder_change_19 (fun r9 F9 z9 hp9 => ?_)
    obtain ⟨rfl, h9c, j0, hag9⟩ := hp9
    rw [h9c]
    clear h9c z9
    generalize F9 = F3 at *
    have hpa : F3 (b + 99) = some (.inr (4, 9, pf)) := (hag9 _ (by omega)).trans hpa
    have hps : xPs F3 (b) ((updA past (pp % 9) A)) := xPs_fr hps (fun a9 q1 q2 => hag9 a9 (by omega))
    have hs : xSt F3 (b + 1) ((aPo A a).2) := xSt_fr hs (fun a9 q1 q2 => hag9 a9 (by omega))
    have hbt : xBt F3 (b + 109) (nb1_8) (fb1_8) := xBt_fr hbt (fun a9 q1 q2 => hag9 a9 (by omega))
    have b0 : F3 (b) = some (.inl (9, [.ref (b + 1), .ref (b + 50), .ref (b + 99), .ref (b + 100), .ref (b + 107), .ref (b + 109), .ref (b + 111), .ref (b + 122), .ref (b + 124), .int (nI (sv)), .int (nI (pp + 1)), .int (nI (un1 un)), .int ep, .int fc])) := j0
    have hag : ∀ a9 : Nat, (a9 < b ∨ b + 1 ≤ a9) → (a9 < b + 1 ∨ b + 1 + 49 ≤ a9) → (a9 < b + 109 ∨ b + 109 + 2 ≤ a9) → (a9 < b + 125 ∨ b + 125 + 441 ≤ a9) → F3 a9 = F a9 := fun a9 q0 q1 q2 q3 => (hag9 a9 (by omega)).trans (hag a9 q0 q1 q2 q3)
    have hg_19 := hag9
    clear hag9
    refine x_iload hC d_MessageCoder_change_22 rfl ?_
    refine hret _ _ _ _ _ _ _ d_MessageCoder_change_24 (by decide) (by decide) rfl ?_
    have e1_ : chP (aPo A a).1 pp = pp + 1 := if_neg c_15
    have e2_ : chU (aPo A a).1 un = un1 un := if_neg c_15
    exact ⟨_, _, rfl, rfl, by rw [e1_, e2_]; exact b0, hs, hbt, hps, hag⟩

set_option maxHeartbeats 4000000 in
set_option maxRecDepth 20000 in
theorem c_MessageCoder_change4 {P : xP} {F : xF} {z : Nat} {b : Nat} {cm : cmT} {sm : Nat} {sv : Nat} {pp : Nat} {un : Nat} {ep : Int32} {fc : Int32} {A : aS} {nb : Nat} {fb9 : Nat → Nat} {pf : Nat → Value} {past : Nat → aS} {a : Int32} {x : Int32} (b0 : F (b) = some (.inl (9, [.ref (b + 1), .ref (b + 50), .ref (b + 99), .ref (b + 100), .ref (b + 107), .ref (b + 109), .ref (b + 111), .ref (b + 122), .ref (b + 124), .int (nI (sv)), .int (nI (pp)), .int (nI (un)), .int ep, .int fc]))) (hs : xSt F (b + 1) (A)) (hbt : xBt F (b + 109) (nb) (fb9)) (hpa : F (b + 99) = some (.inr (4, 9, pf))) (hps : xPs F (b) (past)) (hCM : xCM P cm) (hSM : xSM P sm) (hpf : ∀ i, i < 9 → pf i = .ref (b + 125 + 49 * i)) (hpp : pp < 100000) (hun : un < 100000) : xM P xy_MessageCoder_change [.ref b, .ref (cm.2.1 4), .int a, .int x] F (z) 0 0 (fun r9 F9 z9 => ∃ nb1 : Nat, ∃ fb1 : Nat → Nat, r9 = some (.int ((aDi A a).1)) ∧ z9 = z ∧ F9 (b) = some (.inl (9, [.ref (b + 1), .ref (b + 50), .ref (b + 99), .ref (b + 100), .ref (b + 107), .ref (b + 109), .ref (b + 111), .ref (b + 122), .ref (b + 124), .int (nI (sv)), .int (nI (chP (aDi A a).1 pp)), .int (nI (chU (aDi A a).1 un)), .int ep, .int fc])) ∧ xSt F9 (b + 1) ((aDi A a).2) ∧ xBt F9 (b + 109) (nb1) (fb1) ∧ xPs F9 (b) ((updA past (pp % 9) A)) ∧ (∀ a9 : Nat, (a9 < b ∨ b + 1 ≤ a9) → (a9 < b + 1 ∨ b + 1 + 49 ≤ a9) → (a9 < b + 109 ∨ b + 109 + 2 ≤ a9) → (a9 < b + 125 ∨ b + 125 + 441 ≤ a9) → F9 a9 = F a9)) := by
  refine xM_i .int rfl (Nat.le_of_ble_eq_true rfl) (L0 := [some (.ref b), some (.ref (cm.2.1 4)), some (.int a), some (.int x), none]) rfl rfl fun Θ hC hret => ?_
  have hag : ∀ a9 : Nat, (a9 < b ∨ b + 1 ≤ a9) → (a9 < b + 1 ∨ b + 1 + 49 ≤ a9) → (a9 < b + 109 ∨ b + 109 + 2 ≤ a9) → (a9 < b + 125 ∨ b + 125 + 441 ≤ a9) → F a9 = F a9 := fun a9 _ _ _ _ => rfl
  refine x_aload_n hC d_MessageCoder_change_0 rfl rfl ?_
  refine x_callV hC kv_MessageCoder_404 (c_MessageCoder_keepBefore (b0 := b0) (hpa := hpa) (hs := hs) (hps := hps) (hpf := hpf) (hpp := by omega)) b0 rfl rfl (by decide) rfl rfl rfl (Nat.le_of_ble_eq_true rfl) (by decide) d_MessageCoder_change_1 (fun r9 F9 z9 hp9 => ?_)
  obtain ⟨rfl, h9c, j0, hag9⟩ := hp9
  rw [h9c]
  clear h9c z9
  generalize F9 = F1 at *
  have b0 : F1 (b) = some (.inl (9, [.ref (b + 1), .ref (b + 50), .ref (b + 99), .ref (b + 100), .ref (b + 107), .ref (b + 109), .ref (b + 111), .ref (b + 122), .ref (b + 124), .int (nI (sv)), .int (nI (pp)), .int (nI (un)), .int ep, .int fc])) := (hag9 _ (by omega)).trans b0
  have hs : xSt F1 (b + 1) (A) := xSt_fr hs (fun a9 q1 q2 => hag9 a9 (by omega))
  have hbt : xBt F1 (b + 109) (nb) (fb9) := xBt_fr hbt (fun a9 q1 q2 => hag9 a9 (by omega))
  have hpa : F1 (b + 99) = some (.inr (4, 9, pf)) := (hag9 _ (by omega)).trans hpa
  have hps : xPs F1 (b) ((updA past (pp % 9) A)) := j0
  have hag : ∀ a9 : Nat, (a9 < b ∨ b + 1 ≤ a9) → (a9 < b + 1 ∨ b + 1 + 49 ≤ a9) → (a9 < b + 109 ∨ b + 109 + 2 ≤ a9) → (a9 < b + 125 ∨ b + 125 + 441 ≤ a9) → F1 a9 = F a9 := fun a9 q0 q1 q2 q3 => (hag9 a9 (by omega)).trans (hag a9 q0 q1 q2 q3)
  have hg_1 := hag9
  clear hag9
  refine x_aload_n hC d_MessageCoder_change_4 rfl rfl ?_
  refine x_aload_n hC d_MessageCoder_change_5 rfl rfl ?_
  refine x_iload_n hC d_MessageCoder_change_6 rfl rfl ?_
  refine x_iload_n hC d_MessageCoder_change_7 rfl rfl ?_
  refine x_callV hC kv_MessageCoder_407 (c_MessageCoder_perform4 (b0 := b0) (hs := hs) (hbt := hbt) (hCM := hCM) (hSM := hSM)) b0 rfl rfl (by decide) rfl rfl rfl (Nat.le_of_ble_eq_true rfl) (by decide) d_MessageCoder_change_8 (fun r9 F9 z9 hp9 => ?_)
  obtain ⟨nb1_8, fb1_8, rfl, h9c, j0, j1, hag9⟩ := hp9
  rw [h9c]
  clear h9c z9
  generalize F9 = F2 at *
  have b0 : F2 (b) = some (.inl (9, [.ref (b + 1), .ref (b + 50), .ref (b + 99), .ref (b + 100), .ref (b + 107), .ref (b + 109), .ref (b + 111), .ref (b + 122), .ref (b + 124), .int (nI (sv)), .int (nI (pp)), .int (nI (un)), .int ep, .int fc])) := (hag9 _ (by omega) (by omega)).trans b0
  have hpa : F2 (b + 99) = some (.inr (4, 9, pf)) := (hag9 _ (by omega) (by omega)).trans hpa
  have hps : xPs F2 (b) ((updA past (pp % 9) A)) := xPs_fr hps (fun a9 q1 q2 => hag9 a9 (by omega) (by omega))
  have hs : xSt F2 (b + 1) ((aDi A a).2) := j0
  have hbt : xBt F2 (b + 109) (nb1_8) (fb1_8) := j1
  have hag : ∀ a9 : Nat, (a9 < b ∨ b + 1 ≤ a9) → (a9 < b + 1 ∨ b + 1 + 49 ≤ a9) → (a9 < b + 109 ∨ b + 109 + 2 ≤ a9) → (a9 < b + 125 ∨ b + 125 + 441 ≤ a9) → F2 a9 = F a9 := fun a9 q0 q1 q2 q3 => (hag9 a9 (by omega) (by omega)).trans (hag a9 q0 q1 q2 q3)
  have hg_8 := hag9
  clear hag9
  refine x_istore hC d_MessageCoder_change_11 (Nat.le_of_ble_eq_true rfl) (L1 := [some (.ref b), some (.ref (cm.2.1 4)), some (.int a), some (.int x), some (.int ((aDi A a).1))]) rfl ?_
  refine x_iload hC d_MessageCoder_change_13 rfl ?_
  refine x_if_lt hC d_MessageCoder_change_15 (tgt := 22) (by decide) (fun c_15 => ?_) (fun c_15 => ?_)
  · skip
    refine x_iload hC d_MessageCoder_change_22 rfl ?_
    refine hret _ _ _ _ _ _ _ d_MessageCoder_change_24 (by decide) (by decide) rfl ?_
    have e1_ : chP (aDi A a).1 pp = pp := if_pos c_15
    have e2_ : chU (aDi A a).1 un = un := if_pos c_15
    exact ⟨_, _, rfl, rfl, by rw [e1_, e2_]; exact b0, hs, hbt, hps, hag⟩
  · skip
    refine x_aload_n hC d_MessageCoder_change_18 rfl rfl ?_
    refine x_callV hC kv_MessageCoder_410 (c_MessageCoder_countChange (b0 := b0) (hpp := by omega) (hun := by omega)) b0 rfl rfl (by decide) rfl rfl rfl (Nat.le_of_ble_eq_true rfl) (by decide) d_MessageCoder_change_19 (fun r9 F9 z9 hp9 => ?_)
    obtain ⟨rfl, h9c, j0, hag9⟩ := hp9
    rw [h9c]
    clear h9c z9
    generalize F9 = F3 at *
    have hpa : F3 (b + 99) = some (.inr (4, 9, pf)) := (hag9 _ (by omega)).trans hpa
    have hps : xPs F3 (b) ((updA past (pp % 9) A)) := xPs_fr hps (fun a9 q1 q2 => hag9 a9 (by omega))
    have hs : xSt F3 (b + 1) ((aDi A a).2) := xSt_fr hs (fun a9 q1 q2 => hag9 a9 (by omega))
    have hbt : xBt F3 (b + 109) (nb1_8) (fb1_8) := xBt_fr hbt (fun a9 q1 q2 => hag9 a9 (by omega))
    have b0 : F3 (b) = some (.inl (9, [.ref (b + 1), .ref (b + 50), .ref (b + 99), .ref (b + 100), .ref (b + 107), .ref (b + 109), .ref (b + 111), .ref (b + 122), .ref (b + 124), .int (nI (sv)), .int (nI (pp + 1)), .int (nI (un1 un)), .int ep, .int fc])) := j0
    have hag : ∀ a9 : Nat, (a9 < b ∨ b + 1 ≤ a9) → (a9 < b + 1 ∨ b + 1 + 49 ≤ a9) → (a9 < b + 109 ∨ b + 109 + 2 ≤ a9) → (a9 < b + 125 ∨ b + 125 + 441 ≤ a9) → F3 a9 = F a9 := fun a9 q0 q1 q2 q3 => (hag9 a9 (by omega)).trans (hag a9 q0 q1 q2 q3)
    have hg_19 := hag9
    clear hag9
    refine x_iload hC d_MessageCoder_change_22 rfl ?_
    refine hret _ _ _ _ _ _ _ d_MessageCoder_change_24 (by decide) (by decide) rfl ?_
    have e1_ : chP (aDi A a).1 pp = pp + 1 := if_neg c_15
    have e2_ : chU (aDi A a).1 un = un1 un := if_neg c_15
    exact ⟨_, _, rfl, rfl, by rw [e1_, e2_]; exact b0, hs, hbt, hps, hag⟩

set_option maxHeartbeats 4000000 in
set_option maxRecDepth 20000 in
theorem c_MessageCoder_change5 {P : xP} {F : xF} {z : Nat} {b : Nat} {cm : cmT} {sm : Nat} {sv : Nat} {pp : Nat} {un : Nat} {ep : Int32} {fc : Int32} {A : aS} {nb : Nat} {fb9 : Nat → Nat} {pf : Nat → Value} {past : Nat → aS} {a : Int32} {x : Int32} (b0 : F (b) = some (.inl (9, [.ref (b + 1), .ref (b + 50), .ref (b + 99), .ref (b + 100), .ref (b + 107), .ref (b + 109), .ref (b + 111), .ref (b + 122), .ref (b + 124), .int (nI (sv)), .int (nI (pp)), .int (nI (un)), .int ep, .int fc]))) (hs : xSt F (b + 1) (A)) (hbt : xBt F (b + 109) (nb) (fb9)) (hpa : F (b + 99) = some (.inr (4, 9, pf))) (hps : xPs F (b) (past)) (hCM : xCM P cm) (hSM : xSM P sm) (hpf : ∀ i, i < 9 → pf i = .ref (b + 125 + 49 * i)) (hpp : pp < 100000) (hun : un < 100000) : xM P xy_MessageCoder_change [.ref b, .ref (cm.2.1 5), .int a, .int x] F (z) 0 0 (fun r9 F9 z9 => ∃ nb1 : Nat, ∃ fb1 : Nat → Nat, r9 = some (.int ((aHu A a x).1)) ∧ z9 = z ∧ F9 (b) = some (.inl (9, [.ref (b + 1), .ref (b + 50), .ref (b + 99), .ref (b + 100), .ref (b + 107), .ref (b + 109), .ref (b + 111), .ref (b + 122), .ref (b + 124), .int (nI (sv)), .int (nI (chP (aHu A a x).1 pp)), .int (nI (chU (aHu A a x).1 un)), .int ep, .int fc])) ∧ xSt F9 (b + 1) ((aHu A a x).2) ∧ xBt F9 (b + 109) (nb1) (fb1) ∧ xPs F9 (b) ((updA past (pp % 9) A)) ∧ (∀ a9 : Nat, (a9 < b ∨ b + 1 ≤ a9) → (a9 < b + 1 ∨ b + 1 + 49 ≤ a9) → (a9 < b + 109 ∨ b + 109 + 2 ≤ a9) → (a9 < b + 125 ∨ b + 125 + 441 ≤ a9) → F9 a9 = F a9)) := by
  refine xM_i .int rfl (Nat.le_of_ble_eq_true rfl) (L0 := [some (.ref b), some (.ref (cm.2.1 5)), some (.int a), some (.int x), none]) rfl rfl fun Θ hC hret => ?_
  have hag : ∀ a9 : Nat, (a9 < b ∨ b + 1 ≤ a9) → (a9 < b + 1 ∨ b + 1 + 49 ≤ a9) → (a9 < b + 109 ∨ b + 109 + 2 ≤ a9) → (a9 < b + 125 ∨ b + 125 + 441 ≤ a9) → F a9 = F a9 := fun a9 _ _ _ _ => rfl
  refine x_aload_n hC d_MessageCoder_change_0 rfl rfl ?_
  refine x_callV hC kv_MessageCoder_404 (c_MessageCoder_keepBefore (b0 := b0) (hpa := hpa) (hs := hs) (hps := hps) (hpf := hpf) (hpp := by omega)) b0 rfl rfl (by decide) rfl rfl rfl (Nat.le_of_ble_eq_true rfl) (by decide) d_MessageCoder_change_1 (fun r9 F9 z9 hp9 => ?_)
  obtain ⟨rfl, h9c, j0, hag9⟩ := hp9
  rw [h9c]
  clear h9c z9
  generalize F9 = F1 at *
  have b0 : F1 (b) = some (.inl (9, [.ref (b + 1), .ref (b + 50), .ref (b + 99), .ref (b + 100), .ref (b + 107), .ref (b + 109), .ref (b + 111), .ref (b + 122), .ref (b + 124), .int (nI (sv)), .int (nI (pp)), .int (nI (un)), .int ep, .int fc])) := (hag9 _ (by omega)).trans b0
  have hs : xSt F1 (b + 1) (A) := xSt_fr hs (fun a9 q1 q2 => hag9 a9 (by omega))
  have hbt : xBt F1 (b + 109) (nb) (fb9) := xBt_fr hbt (fun a9 q1 q2 => hag9 a9 (by omega))
  have hpa : F1 (b + 99) = some (.inr (4, 9, pf)) := (hag9 _ (by omega)).trans hpa
  have hps : xPs F1 (b) ((updA past (pp % 9) A)) := j0
  have hag : ∀ a9 : Nat, (a9 < b ∨ b + 1 ≤ a9) → (a9 < b + 1 ∨ b + 1 + 49 ≤ a9) → (a9 < b + 109 ∨ b + 109 + 2 ≤ a9) → (a9 < b + 125 ∨ b + 125 + 441 ≤ a9) → F1 a9 = F a9 := fun a9 q0 q1 q2 q3 => (hag9 a9 (by omega)).trans (hag a9 q0 q1 q2 q3)
  have hg_1 := hag9
  clear hag9
  refine x_aload_n hC d_MessageCoder_change_4 rfl rfl ?_
  refine x_aload_n hC d_MessageCoder_change_5 rfl rfl ?_
  refine x_iload_n hC d_MessageCoder_change_6 rfl rfl ?_
  refine x_iload_n hC d_MessageCoder_change_7 rfl rfl ?_
  refine x_callV hC kv_MessageCoder_407 (c_MessageCoder_perform5 (b0 := b0) (hs := hs) (hbt := hbt) (hCM := hCM) (hSM := hSM)) b0 rfl rfl (by decide) rfl rfl rfl (Nat.le_of_ble_eq_true rfl) (by decide) d_MessageCoder_change_8 (fun r9 F9 z9 hp9 => ?_)
  obtain ⟨nb1_8, fb1_8, rfl, h9c, j0, j1, hag9⟩ := hp9
  rw [h9c]
  clear h9c z9
  generalize F9 = F2 at *
  have b0 : F2 (b) = some (.inl (9, [.ref (b + 1), .ref (b + 50), .ref (b + 99), .ref (b + 100), .ref (b + 107), .ref (b + 109), .ref (b + 111), .ref (b + 122), .ref (b + 124), .int (nI (sv)), .int (nI (pp)), .int (nI (un)), .int ep, .int fc])) := (hag9 _ (by omega) (by omega)).trans b0
  have hpa : F2 (b + 99) = some (.inr (4, 9, pf)) := (hag9 _ (by omega) (by omega)).trans hpa
  have hps : xPs F2 (b) ((updA past (pp % 9) A)) := xPs_fr hps (fun a9 q1 q2 => hag9 a9 (by omega) (by omega))
  have hs : xSt F2 (b + 1) ((aHu A a x).2) := j0
  have hbt : xBt F2 (b + 109) (nb1_8) (fb1_8) := j1
  have hag : ∀ a9 : Nat, (a9 < b ∨ b + 1 ≤ a9) → (a9 < b + 1 ∨ b + 1 + 49 ≤ a9) → (a9 < b + 109 ∨ b + 109 + 2 ≤ a9) → (a9 < b + 125 ∨ b + 125 + 441 ≤ a9) → F2 a9 = F a9 := fun a9 q0 q1 q2 q3 => (hag9 a9 (by omega) (by omega)).trans (hag a9 q0 q1 q2 q3)
  have hg_8 := hag9
  clear hag9
  refine x_istore hC d_MessageCoder_change_11 (Nat.le_of_ble_eq_true rfl) (L1 := [some (.ref b), some (.ref (cm.2.1 5)), some (.int a), some (.int x), some (.int ((aHu A a x).1))]) rfl ?_
  refine x_iload hC d_MessageCoder_change_13 rfl ?_
  refine x_if_lt hC d_MessageCoder_change_15 (tgt := 22) (by decide) (fun c_15 => ?_) (fun c_15 => ?_)
  · skip
    refine x_iload hC d_MessageCoder_change_22 rfl ?_
    refine hret _ _ _ _ _ _ _ d_MessageCoder_change_24 (by decide) (by decide) rfl ?_
    have e1_ : chP (aHu A a x).1 pp = pp := if_pos c_15
    have e2_ : chU (aHu A a x).1 un = un := if_pos c_15
    exact ⟨_, _, rfl, rfl, by rw [e1_, e2_]; exact b0, hs, hbt, hps, hag⟩
  · skip
    refine x_aload_n hC d_MessageCoder_change_18 rfl rfl ?_
    refine x_callV hC kv_MessageCoder_410 (c_MessageCoder_countChange (b0 := b0) (hpp := by omega) (hun := by omega)) b0 rfl rfl (by decide) rfl rfl rfl (Nat.le_of_ble_eq_true rfl) (by decide) d_MessageCoder_change_19 (fun r9 F9 z9 hp9 => ?_)
    obtain ⟨rfl, h9c, j0, hag9⟩ := hp9
    rw [h9c]
    clear h9c z9
    generalize F9 = F3 at *
    have hpa : F3 (b + 99) = some (.inr (4, 9, pf)) := (hag9 _ (by omega)).trans hpa
    have hps : xPs F3 (b) ((updA past (pp % 9) A)) := xPs_fr hps (fun a9 q1 q2 => hag9 a9 (by omega))
    have hs : xSt F3 (b + 1) ((aHu A a x).2) := xSt_fr hs (fun a9 q1 q2 => hag9 a9 (by omega))
    have hbt : xBt F3 (b + 109) (nb1_8) (fb1_8) := xBt_fr hbt (fun a9 q1 q2 => hag9 a9 (by omega))
    have b0 : F3 (b) = some (.inl (9, [.ref (b + 1), .ref (b + 50), .ref (b + 99), .ref (b + 100), .ref (b + 107), .ref (b + 109), .ref (b + 111), .ref (b + 122), .ref (b + 124), .int (nI (sv)), .int (nI (pp + 1)), .int (nI (un1 un)), .int ep, .int fc])) := j0
    have hag : ∀ a9 : Nat, (a9 < b ∨ b + 1 ≤ a9) → (a9 < b + 1 ∨ b + 1 + 49 ≤ a9) → (a9 < b + 109 ∨ b + 109 + 2 ≤ a9) → (a9 < b + 125 ∨ b + 125 + 441 ≤ a9) → F3 a9 = F a9 := fun a9 q0 q1 q2 q3 => (hag9 a9 (by omega)).trans (hag a9 q0 q1 q2 q3)
    have hg_19 := hag9
    clear hag9
    refine x_iload hC d_MessageCoder_change_22 rfl ?_
    refine hret _ _ _ _ _ _ _ d_MessageCoder_change_24 (by decide) (by decide) rfl ?_
    have e1_ : chP (aHu A a x).1 pp = pp + 1 := if_neg c_15
    have e2_ : chU (aHu A a x).1 un = un1 un := if_neg c_15
    exact ⟨_, _, rfl, rfl, by rw [e1_, e2_]; exact b0, hs, hbt, hps, hag⟩

set_option maxHeartbeats 4000000 in
set_option maxRecDepth 20000 in
theorem c_MessageCoder_change6 {P : xP} {F : xF} {z : Nat} {b : Nat} {cm : cmT} {sm : Nat} {sv : Nat} {pp : Nat} {un : Nat} {ep : Int32} {fc : Int32} {A : aS} {nb : Nat} {fb9 : Nat → Nat} {pf : Nat → Value} {past : Nat → aS} {a : Int32} {x : Int32} (b0 : F (b) = some (.inl (9, [.ref (b + 1), .ref (b + 50), .ref (b + 99), .ref (b + 100), .ref (b + 107), .ref (b + 109), .ref (b + 111), .ref (b + 122), .ref (b + 124), .int (nI (sv)), .int (nI (pp)), .int (nI (un)), .int ep, .int fc]))) (hs : xSt F (b + 1) (A)) (hbt : xBt F (b + 109) (nb) (fb9)) (hpa : F (b + 99) = some (.inr (4, 9, pf))) (hps : xPs F (b) (past)) (hCM : xCM P cm) (hSM : xSM P sm) (hpf : ∀ i, i < 9 → pf i = .ref (b + 125 + 49 * i)) (hpp : pp < 100000) (hun : un < 100000) : xM P xy_MessageCoder_change [.ref b, .ref (cm.2.1 6), .int a, .int x] F (z) 0 0 (fun r9 F9 z9 => ∃ nb1 : Nat, ∃ fb1 : Nat → Nat, r9 = some (.int ((aLe A a).1)) ∧ z9 = z ∧ F9 (b) = some (.inl (9, [.ref (b + 1), .ref (b + 50), .ref (b + 99), .ref (b + 100), .ref (b + 107), .ref (b + 109), .ref (b + 111), .ref (b + 122), .ref (b + 124), .int (nI (sv)), .int (nI (chP (aLe A a).1 pp)), .int (nI (chU (aLe A a).1 un)), .int ep, .int fc])) ∧ xSt F9 (b + 1) ((aLe A a).2) ∧ xBt F9 (b + 109) (nb1) (fb1) ∧ xPs F9 (b) ((updA past (pp % 9) A)) ∧ (∀ a9 : Nat, (a9 < b ∨ b + 1 ≤ a9) → (a9 < b + 1 ∨ b + 1 + 49 ≤ a9) → (a9 < b + 109 ∨ b + 109 + 2 ≤ a9) → (a9 < b + 125 ∨ b + 125 + 441 ≤ a9) → F9 a9 = F a9)) := by
  refine xM_i .int rfl (Nat.le_of_ble_eq_true rfl) (L0 := [some (.ref b), some (.ref (cm.2.1 6)), some (.int a), some (.int x), none]) rfl rfl fun Θ hC hret => ?_
  have hag : ∀ a9 : Nat, (a9 < b ∨ b + 1 ≤ a9) → (a9 < b + 1 ∨ b + 1 + 49 ≤ a9) → (a9 < b + 109 ∨ b + 109 + 2 ≤ a9) → (a9 < b + 125 ∨ b + 125 + 441 ≤ a9) → F a9 = F a9 := fun a9 _ _ _ _ => rfl
  refine x_aload_n hC d_MessageCoder_change_0 rfl rfl ?_
  refine x_callV hC kv_MessageCoder_404 (c_MessageCoder_keepBefore (b0 := b0) (hpa := hpa) (hs := hs) (hps := hps) (hpf := hpf) (hpp := by omega)) b0 rfl rfl (by decide) rfl rfl rfl (Nat.le_of_ble_eq_true rfl) (by decide) d_MessageCoder_change_1 (fun r9 F9 z9 hp9 => ?_)
  obtain ⟨rfl, h9c, j0, hag9⟩ := hp9
  rw [h9c]
  clear h9c z9
  generalize F9 = F1 at *
  have b0 : F1 (b) = some (.inl (9, [.ref (b + 1), .ref (b + 50), .ref (b + 99), .ref (b + 100), .ref (b + 107), .ref (b + 109), .ref (b + 111), .ref (b + 122), .ref (b + 124), .int (nI (sv)), .int (nI (pp)), .int (nI (un)), .int ep, .int fc])) := (hag9 _ (by omega)).trans b0
  have hs : xSt F1 (b + 1) (A) := xSt_fr hs (fun a9 q1 q2 => hag9 a9 (by omega))
  have hbt : xBt F1 (b + 109) (nb) (fb9) := xBt_fr hbt (fun a9 q1 q2 => hag9 a9 (by omega))
  have hpa : F1 (b + 99) = some (.inr (4, 9, pf)) := (hag9 _ (by omega)).trans hpa
  have hps : xPs F1 (b) ((updA past (pp % 9) A)) := j0
  have hag : ∀ a9 : Nat, (a9 < b ∨ b + 1 ≤ a9) → (a9 < b + 1 ∨ b + 1 + 49 ≤ a9) → (a9 < b + 109 ∨ b + 109 + 2 ≤ a9) → (a9 < b + 125 ∨ b + 125 + 441 ≤ a9) → F1 a9 = F a9 := fun a9 q0 q1 q2 q3 => (hag9 a9 (by omega)).trans (hag a9 q0 q1 q2 q3)
  have hg_1 := hag9
  clear hag9
  refine x_aload_n hC d_MessageCoder_change_4 rfl rfl ?_
  refine x_aload_n hC d_MessageCoder_change_5 rfl rfl ?_
  refine x_iload_n hC d_MessageCoder_change_6 rfl rfl ?_
  refine x_iload_n hC d_MessageCoder_change_7 rfl rfl ?_
  refine x_callV hC kv_MessageCoder_407 (c_MessageCoder_perform6 (b0 := b0) (hs := hs) (hbt := hbt) (hCM := hCM) (hSM := hSM)) b0 rfl rfl (by decide) rfl rfl rfl (Nat.le_of_ble_eq_true rfl) (by decide) d_MessageCoder_change_8 (fun r9 F9 z9 hp9 => ?_)
  obtain ⟨nb1_8, fb1_8, rfl, h9c, j0, j1, hag9⟩ := hp9
  rw [h9c]
  clear h9c z9
  generalize F9 = F2 at *
  have b0 : F2 (b) = some (.inl (9, [.ref (b + 1), .ref (b + 50), .ref (b + 99), .ref (b + 100), .ref (b + 107), .ref (b + 109), .ref (b + 111), .ref (b + 122), .ref (b + 124), .int (nI (sv)), .int (nI (pp)), .int (nI (un)), .int ep, .int fc])) := (hag9 _ (by omega) (by omega)).trans b0
  have hpa : F2 (b + 99) = some (.inr (4, 9, pf)) := (hag9 _ (by omega) (by omega)).trans hpa
  have hps : xPs F2 (b) ((updA past (pp % 9) A)) := xPs_fr hps (fun a9 q1 q2 => hag9 a9 (by omega) (by omega))
  have hs : xSt F2 (b + 1) ((aLe A a).2) := j0
  have hbt : xBt F2 (b + 109) (nb1_8) (fb1_8) := j1
  have hag : ∀ a9 : Nat, (a9 < b ∨ b + 1 ≤ a9) → (a9 < b + 1 ∨ b + 1 + 49 ≤ a9) → (a9 < b + 109 ∨ b + 109 + 2 ≤ a9) → (a9 < b + 125 ∨ b + 125 + 441 ≤ a9) → F2 a9 = F a9 := fun a9 q0 q1 q2 q3 => (hag9 a9 (by omega) (by omega)).trans (hag a9 q0 q1 q2 q3)
  have hg_8 := hag9
  clear hag9
  refine x_istore hC d_MessageCoder_change_11 (Nat.le_of_ble_eq_true rfl) (L1 := [some (.ref b), some (.ref (cm.2.1 6)), some (.int a), some (.int x), some (.int ((aLe A a).1))]) rfl ?_
  refine x_iload hC d_MessageCoder_change_13 rfl ?_
  refine x_if_lt hC d_MessageCoder_change_15 (tgt := 22) (by decide) (fun c_15 => ?_) (fun c_15 => ?_)
  · skip
    refine x_iload hC d_MessageCoder_change_22 rfl ?_
    refine hret _ _ _ _ _ _ _ d_MessageCoder_change_24 (by decide) (by decide) rfl ?_
    have e1_ : chP (aLe A a).1 pp = pp := if_pos c_15
    have e2_ : chU (aLe A a).1 un = un := if_pos c_15
    exact ⟨_, _, rfl, rfl, by rw [e1_, e2_]; exact b0, hs, hbt, hps, hag⟩
  · skip
    refine x_aload_n hC d_MessageCoder_change_18 rfl rfl ?_
    refine x_callV hC kv_MessageCoder_410 (c_MessageCoder_countChange (b0 := b0) (hpp := by omega) (hun := by omega)) b0 rfl rfl (by decide) rfl rfl rfl (Nat.le_of_ble_eq_true rfl) (by decide) d_MessageCoder_change_19 (fun r9 F9 z9 hp9 => ?_)
    obtain ⟨rfl, h9c, j0, hag9⟩ := hp9
    rw [h9c]
    clear h9c z9
    generalize F9 = F3 at *
    have hpa : F3 (b + 99) = some (.inr (4, 9, pf)) := (hag9 _ (by omega)).trans hpa
    have hps : xPs F3 (b) ((updA past (pp % 9) A)) := xPs_fr hps (fun a9 q1 q2 => hag9 a9 (by omega))
    have hs : xSt F3 (b + 1) ((aLe A a).2) := xSt_fr hs (fun a9 q1 q2 => hag9 a9 (by omega))
    have hbt : xBt F3 (b + 109) (nb1_8) (fb1_8) := xBt_fr hbt (fun a9 q1 q2 => hag9 a9 (by omega))
    have b0 : F3 (b) = some (.inl (9, [.ref (b + 1), .ref (b + 50), .ref (b + 99), .ref (b + 100), .ref (b + 107), .ref (b + 109), .ref (b + 111), .ref (b + 122), .ref (b + 124), .int (nI (sv)), .int (nI (pp + 1)), .int (nI (un1 un)), .int ep, .int fc])) := j0
    have hag : ∀ a9 : Nat, (a9 < b ∨ b + 1 ≤ a9) → (a9 < b + 1 ∨ b + 1 + 49 ≤ a9) → (a9 < b + 109 ∨ b + 109 + 2 ≤ a9) → (a9 < b + 125 ∨ b + 125 + 441 ≤ a9) → F3 a9 = F a9 := fun a9 q0 q1 q2 q3 => (hag9 a9 (by omega)).trans (hag a9 q0 q1 q2 q3)
    have hg_19 := hag9
    clear hag9
    refine x_iload hC d_MessageCoder_change_22 rfl ?_
    refine hret _ _ _ _ _ _ _ d_MessageCoder_change_24 (by decide) (by decide) rfl ?_
    have e1_ : chP (aLe A a).1 pp = pp + 1 := if_neg c_15
    have e2_ : chU (aLe A a).1 un = un1 un := if_neg c_15
    exact ⟨_, _, rfl, rfl, by rw [e1_, e2_]; exact b0, hs, hbt, hps, hag⟩

set_option maxHeartbeats 4000000 in
set_option maxRecDepth 20000 in
theorem c_MessageCoder_change7 {P : xP} {F : xF} {z : Nat} {b : Nat} {cm : cmT} {sm : Nat} {sv : Nat} {pp : Nat} {un : Nat} {ep : Int32} {fc : Int32} {A : aS} {nb : Nat} {fb9 : Nat → Nat} {pf : Nat → Value} {past : Nat → aS} {a : Int32} {x : Int32} (b0 : F (b) = some (.inl (9, [.ref (b + 1), .ref (b + 50), .ref (b + 99), .ref (b + 100), .ref (b + 107), .ref (b + 109), .ref (b + 111), .ref (b + 122), .ref (b + 124), .int (nI (sv)), .int (nI (pp)), .int (nI (un)), .int ep, .int fc]))) (hs : xSt F (b + 1) (A)) (hbt : xBt F (b + 109) (nb) (fb9)) (hpa : F (b + 99) = some (.inr (4, 9, pf))) (hps : xPs F (b) (past)) (hCM : xCM P cm) (hSM : xSM P sm) (hpf : ∀ i, i < 9 → pf i = .ref (b + 125 + 49 * i)) (hpp : pp < 100000) (hun : un < 100000) : xM P xy_MessageCoder_change [.ref b, .ref (cm.2.1 7), .int a, .int x] F (z) 0 0 (fun r9 F9 z9 => ∃ nb1 : Nat, ∃ fb1 : Nat → Nat, r9 = some (.int ((aSe A).1)) ∧ z9 = z ∧ F9 (b) = some (.inl (9, [.ref (b + 1), .ref (b + 50), .ref (b + 99), .ref (b + 100), .ref (b + 107), .ref (b + 109), .ref (b + 111), .ref (b + 122), .ref (b + 124), .int (nI (sv)), .int (nI (chP (aSe A).1 pp)), .int (nI (chU (aSe A).1 un)), .int ep, .int fc])) ∧ xSt F9 (b + 1) ((aSe A).2) ∧ xBt F9 (b + 109) (nb1) (fb1) ∧ xPs F9 (b) ((updA past (pp % 9) A)) ∧ (∀ a9 : Nat, (a9 < b ∨ b + 1 ≤ a9) → (a9 < b + 1 ∨ b + 1 + 49 ≤ a9) → (a9 < b + 109 ∨ b + 109 + 2 ≤ a9) → (a9 < b + 125 ∨ b + 125 + 441 ≤ a9) → F9 a9 = F a9)) := by
  refine xM_i .int rfl (Nat.le_of_ble_eq_true rfl) (L0 := [some (.ref b), some (.ref (cm.2.1 7)), some (.int a), some (.int x), none]) rfl rfl fun Θ hC hret => ?_
  have hag : ∀ a9 : Nat, (a9 < b ∨ b + 1 ≤ a9) → (a9 < b + 1 ∨ b + 1 + 49 ≤ a9) → (a9 < b + 109 ∨ b + 109 + 2 ≤ a9) → (a9 < b + 125 ∨ b + 125 + 441 ≤ a9) → F a9 = F a9 := fun a9 _ _ _ _ => rfl
  refine x_aload_n hC d_MessageCoder_change_0 rfl rfl ?_
  refine x_callV hC kv_MessageCoder_404 (c_MessageCoder_keepBefore (b0 := b0) (hpa := hpa) (hs := hs) (hps := hps) (hpf := hpf) (hpp := by omega)) b0 rfl rfl (by decide) rfl rfl rfl (Nat.le_of_ble_eq_true rfl) (by decide) d_MessageCoder_change_1 (fun r9 F9 z9 hp9 => ?_)
  obtain ⟨rfl, h9c, j0, hag9⟩ := hp9
  rw [h9c]
  clear h9c z9
  generalize F9 = F1 at *
  have b0 : F1 (b) = some (.inl (9, [.ref (b + 1), .ref (b + 50), .ref (b + 99), .ref (b + 100), .ref (b + 107), .ref (b + 109), .ref (b + 111), .ref (b + 122), .ref (b + 124), .int (nI (sv)), .int (nI (pp)), .int (nI (un)), .int ep, .int fc])) := (hag9 _ (by omega)).trans b0
  have hs : xSt F1 (b + 1) (A) := xSt_fr hs (fun a9 q1 q2 => hag9 a9 (by omega))
  have hbt : xBt F1 (b + 109) (nb) (fb9) := xBt_fr hbt (fun a9 q1 q2 => hag9 a9 (by omega))
  have hpa : F1 (b + 99) = some (.inr (4, 9, pf)) := (hag9 _ (by omega)).trans hpa
  have hps : xPs F1 (b) ((updA past (pp % 9) A)) := j0
  have hag : ∀ a9 : Nat, (a9 < b ∨ b + 1 ≤ a9) → (a9 < b + 1 ∨ b + 1 + 49 ≤ a9) → (a9 < b + 109 ∨ b + 109 + 2 ≤ a9) → (a9 < b + 125 ∨ b + 125 + 441 ≤ a9) → F1 a9 = F a9 := fun a9 q0 q1 q2 q3 => (hag9 a9 (by omega)).trans (hag a9 q0 q1 q2 q3)
  have hg_1 := hag9
  clear hag9
  refine x_aload_n hC d_MessageCoder_change_4 rfl rfl ?_
  refine x_aload_n hC d_MessageCoder_change_5 rfl rfl ?_
  refine x_iload_n hC d_MessageCoder_change_6 rfl rfl ?_
  refine x_iload_n hC d_MessageCoder_change_7 rfl rfl ?_
  refine x_callV hC kv_MessageCoder_407 (c_MessageCoder_perform7 (b0 := b0) (hs := hs) (hbt := hbt) (hCM := hCM) (hSM := hSM)) b0 rfl rfl (by decide) rfl rfl rfl (Nat.le_of_ble_eq_true rfl) (by decide) d_MessageCoder_change_8 (fun r9 F9 z9 hp9 => ?_)
  obtain ⟨nb1_8, fb1_8, rfl, h9c, j0, j1, hag9⟩ := hp9
  rw [h9c]
  clear h9c z9
  generalize F9 = F2 at *
  have b0 : F2 (b) = some (.inl (9, [.ref (b + 1), .ref (b + 50), .ref (b + 99), .ref (b + 100), .ref (b + 107), .ref (b + 109), .ref (b + 111), .ref (b + 122), .ref (b + 124), .int (nI (sv)), .int (nI (pp)), .int (nI (un)), .int ep, .int fc])) := (hag9 _ (by omega) (by omega)).trans b0
  have hpa : F2 (b + 99) = some (.inr (4, 9, pf)) := (hag9 _ (by omega) (by omega)).trans hpa
  have hps : xPs F2 (b) ((updA past (pp % 9) A)) := xPs_fr hps (fun a9 q1 q2 => hag9 a9 (by omega) (by omega))
  have hs : xSt F2 (b + 1) ((aSe A).2) := j0
  have hbt : xBt F2 (b + 109) (nb1_8) (fb1_8) := j1
  have hag : ∀ a9 : Nat, (a9 < b ∨ b + 1 ≤ a9) → (a9 < b + 1 ∨ b + 1 + 49 ≤ a9) → (a9 < b + 109 ∨ b + 109 + 2 ≤ a9) → (a9 < b + 125 ∨ b + 125 + 441 ≤ a9) → F2 a9 = F a9 := fun a9 q0 q1 q2 q3 => (hag9 a9 (by omega) (by omega)).trans (hag a9 q0 q1 q2 q3)
  have hg_8 := hag9
  clear hag9
  refine x_istore hC d_MessageCoder_change_11 (Nat.le_of_ble_eq_true rfl) (L1 := [some (.ref b), some (.ref (cm.2.1 7)), some (.int a), some (.int x), some (.int ((aSe A).1))]) rfl ?_
  refine x_iload hC d_MessageCoder_change_13 rfl ?_
  refine x_if_lt hC d_MessageCoder_change_15 (tgt := 22) (by decide) (fun c_15 => ?_) (fun c_15 => ?_)
  · skip
    refine x_iload hC d_MessageCoder_change_22 rfl ?_
    refine hret _ _ _ _ _ _ _ d_MessageCoder_change_24 (by decide) (by decide) rfl ?_
    have e1_ : chP (aSe A).1 pp = pp := if_pos c_15
    have e2_ : chU (aSe A).1 un = un := if_pos c_15
    exact ⟨_, _, rfl, rfl, by rw [e1_, e2_]; exact b0, hs, hbt, hps, hag⟩
  · skip
    refine x_aload_n hC d_MessageCoder_change_18 rfl rfl ?_
    refine x_callV hC kv_MessageCoder_410 (c_MessageCoder_countChange (b0 := b0) (hpp := by omega) (hun := by omega)) b0 rfl rfl (by decide) rfl rfl rfl (Nat.le_of_ble_eq_true rfl) (by decide) d_MessageCoder_change_19 (fun r9 F9 z9 hp9 => ?_)
    obtain ⟨rfl, h9c, j0, hag9⟩ := hp9
    rw [h9c]
    clear h9c z9
    generalize F9 = F3 at *
    have hpa : F3 (b + 99) = some (.inr (4, 9, pf)) := (hag9 _ (by omega)).trans hpa
    have hps : xPs F3 (b) ((updA past (pp % 9) A)) := xPs_fr hps (fun a9 q1 q2 => hag9 a9 (by omega))
    have hs : xSt F3 (b + 1) ((aSe A).2) := xSt_fr hs (fun a9 q1 q2 => hag9 a9 (by omega))
    have hbt : xBt F3 (b + 109) (nb1_8) (fb1_8) := xBt_fr hbt (fun a9 q1 q2 => hag9 a9 (by omega))
    have b0 : F3 (b) = some (.inl (9, [.ref (b + 1), .ref (b + 50), .ref (b + 99), .ref (b + 100), .ref (b + 107), .ref (b + 109), .ref (b + 111), .ref (b + 122), .ref (b + 124), .int (nI (sv)), .int (nI (pp + 1)), .int (nI (un1 un)), .int ep, .int fc])) := j0
    have hag : ∀ a9 : Nat, (a9 < b ∨ b + 1 ≤ a9) → (a9 < b + 1 ∨ b + 1 + 49 ≤ a9) → (a9 < b + 109 ∨ b + 109 + 2 ≤ a9) → (a9 < b + 125 ∨ b + 125 + 441 ≤ a9) → F3 a9 = F a9 := fun a9 q0 q1 q2 q3 => (hag9 a9 (by omega)).trans (hag a9 q0 q1 q2 q3)
    have hg_19 := hag9
    clear hag9
    refine x_iload hC d_MessageCoder_change_22 rfl ?_
    refine hret _ _ _ _ _ _ _ d_MessageCoder_change_24 (by decide) (by decide) rfl ?_
    have e1_ : chP (aSe A).1 pp = pp + 1 := if_neg c_15
    have e2_ : chU (aSe A).1 un = un1 un := if_neg c_15
    exact ⟨_, _, rfl, rfl, by rw [e1_, e2_]; exact b0, hs, hbt, hps, hag⟩

set_option maxHeartbeats 4000000 in
set_option maxRecDepth 20000 in
theorem c_MessageCoder_change8 {P : xP} {F : xF} {z : Nat} {b : Nat} {cm : cmT} {sm : Nat} {sv : Nat} {pp : Nat} {un : Nat} {ep : Int32} {fc : Int32} {A : aS} {nb : Nat} {fb9 : Nat → Nat} {pf : Nat → Value} {past : Nat → aS} {a : Int32} {x : Int32} (b0 : F (b) = some (.inl (9, [.ref (b + 1), .ref (b + 50), .ref (b + 99), .ref (b + 100), .ref (b + 107), .ref (b + 109), .ref (b + 111), .ref (b + 122), .ref (b + 124), .int (nI (sv)), .int (nI (pp)), .int (nI (un)), .int ep, .int fc]))) (hs : xSt F (b + 1) (A)) (hbt : xBt F (b + 109) (nb) (fb9)) (hpa : F (b + 99) = some (.inr (4, 9, pf))) (hps : xPs F (b) (past)) (hCM : xCM P cm) (hSM : xSM P sm) (hpf : ∀ i, i < 9 → pf i = .ref (b + 125 + 49 * i)) (hpp : pp < 100000) (hun : un < 100000) : xM P xy_MessageCoder_change [.ref b, .ref (cm.2.1 8), .int a, .int x] F (z) 0 0 (fun r9 F9 z9 => ∃ nb1 : Nat, ∃ fb1 : Nat → Nat, r9 = some (.int ((aFl A a).1)) ∧ z9 = z ∧ F9 (b) = some (.inl (9, [.ref (b + 1), .ref (b + 50), .ref (b + 99), .ref (b + 100), .ref (b + 107), .ref (b + 109), .ref (b + 111), .ref (b + 122), .ref (b + 124), .int (nI (sv)), .int (nI (chP (aFl A a).1 pp)), .int (nI (chU (aFl A a).1 un)), .int ep, .int fc])) ∧ xSt F9 (b + 1) ((aFl A a).2) ∧ xBt F9 (b + 109) (nb1) (fb1) ∧ xPs F9 (b) ((updA past (pp % 9) A)) ∧ (∀ a9 : Nat, (a9 < b ∨ b + 1 ≤ a9) → (a9 < b + 1 ∨ b + 1 + 49 ≤ a9) → (a9 < b + 109 ∨ b + 109 + 2 ≤ a9) → (a9 < b + 125 ∨ b + 125 + 441 ≤ a9) → F9 a9 = F a9)) := by
  refine xM_i .int rfl (Nat.le_of_ble_eq_true rfl) (L0 := [some (.ref b), some (.ref (cm.2.1 8)), some (.int a), some (.int x), none]) rfl rfl fun Θ hC hret => ?_
  have hag : ∀ a9 : Nat, (a9 < b ∨ b + 1 ≤ a9) → (a9 < b + 1 ∨ b + 1 + 49 ≤ a9) → (a9 < b + 109 ∨ b + 109 + 2 ≤ a9) → (a9 < b + 125 ∨ b + 125 + 441 ≤ a9) → F a9 = F a9 := fun a9 _ _ _ _ => rfl
  refine x_aload_n hC d_MessageCoder_change_0 rfl rfl ?_
  refine x_callV hC kv_MessageCoder_404 (c_MessageCoder_keepBefore (b0 := b0) (hpa := hpa) (hs := hs) (hps := hps) (hpf := hpf) (hpp := by omega)) b0 rfl rfl (by decide) rfl rfl rfl (Nat.le_of_ble_eq_true rfl) (by decide) d_MessageCoder_change_1 (fun r9 F9 z9 hp9 => ?_)
  obtain ⟨rfl, h9c, j0, hag9⟩ := hp9
  rw [h9c]
  clear h9c z9
  generalize F9 = F1 at *
  have b0 : F1 (b) = some (.inl (9, [.ref (b + 1), .ref (b + 50), .ref (b + 99), .ref (b + 100), .ref (b + 107), .ref (b + 109), .ref (b + 111), .ref (b + 122), .ref (b + 124), .int (nI (sv)), .int (nI (pp)), .int (nI (un)), .int ep, .int fc])) := (hag9 _ (by omega)).trans b0
  have hs : xSt F1 (b + 1) (A) := xSt_fr hs (fun a9 q1 q2 => hag9 a9 (by omega))
  have hbt : xBt F1 (b + 109) (nb) (fb9) := xBt_fr hbt (fun a9 q1 q2 => hag9 a9 (by omega))
  have hpa : F1 (b + 99) = some (.inr (4, 9, pf)) := (hag9 _ (by omega)).trans hpa
  have hps : xPs F1 (b) ((updA past (pp % 9) A)) := j0
  have hag : ∀ a9 : Nat, (a9 < b ∨ b + 1 ≤ a9) → (a9 < b + 1 ∨ b + 1 + 49 ≤ a9) → (a9 < b + 109 ∨ b + 109 + 2 ≤ a9) → (a9 < b + 125 ∨ b + 125 + 441 ≤ a9) → F1 a9 = F a9 := fun a9 q0 q1 q2 q3 => (hag9 a9 (by omega)).trans (hag a9 q0 q1 q2 q3)
  have hg_1 := hag9
  clear hag9
  refine x_aload_n hC d_MessageCoder_change_4 rfl rfl ?_
  refine x_aload_n hC d_MessageCoder_change_5 rfl rfl ?_
  refine x_iload_n hC d_MessageCoder_change_6 rfl rfl ?_
  refine x_iload_n hC d_MessageCoder_change_7 rfl rfl ?_
  refine x_callV hC kv_MessageCoder_407 (c_MessageCoder_perform8 (b0 := b0) (hs := hs) (hbt := hbt) (hCM := hCM) (hSM := hSM)) b0 rfl rfl (by decide) rfl rfl rfl (Nat.le_of_ble_eq_true rfl) (by decide) d_MessageCoder_change_8 (fun r9 F9 z9 hp9 => ?_)
  obtain ⟨nb1_8, fb1_8, rfl, h9c, j0, j1, hag9⟩ := hp9
  rw [h9c]
  clear h9c z9
  generalize F9 = F2 at *
  have b0 : F2 (b) = some (.inl (9, [.ref (b + 1), .ref (b + 50), .ref (b + 99), .ref (b + 100), .ref (b + 107), .ref (b + 109), .ref (b + 111), .ref (b + 122), .ref (b + 124), .int (nI (sv)), .int (nI (pp)), .int (nI (un)), .int ep, .int fc])) := (hag9 _ (by omega) (by omega)).trans b0
  have hpa : F2 (b + 99) = some (.inr (4, 9, pf)) := (hag9 _ (by omega) (by omega)).trans hpa
  have hps : xPs F2 (b) ((updA past (pp % 9) A)) := xPs_fr hps (fun a9 q1 q2 => hag9 a9 (by omega) (by omega))
  have hs : xSt F2 (b + 1) ((aFl A a).2) := j0
  have hbt : xBt F2 (b + 109) (nb1_8) (fb1_8) := j1
  have hag : ∀ a9 : Nat, (a9 < b ∨ b + 1 ≤ a9) → (a9 < b + 1 ∨ b + 1 + 49 ≤ a9) → (a9 < b + 109 ∨ b + 109 + 2 ≤ a9) → (a9 < b + 125 ∨ b + 125 + 441 ≤ a9) → F2 a9 = F a9 := fun a9 q0 q1 q2 q3 => (hag9 a9 (by omega) (by omega)).trans (hag a9 q0 q1 q2 q3)
  have hg_8 := hag9
  clear hag9
  refine x_istore hC d_MessageCoder_change_11 (Nat.le_of_ble_eq_true rfl) (L1 := [some (.ref b), some (.ref (cm.2.1 8)), some (.int a), some (.int x), some (.int ((aFl A a).1))]) rfl ?_
  refine x_iload hC d_MessageCoder_change_13 rfl ?_
  refine x_if_lt hC d_MessageCoder_change_15 (tgt := 22) (by decide) (fun c_15 => ?_) (fun c_15 => ?_)
  · skip
    refine x_iload hC d_MessageCoder_change_22 rfl ?_
    refine hret _ _ _ _ _ _ _ d_MessageCoder_change_24 (by decide) (by decide) rfl ?_
    have e1_ : chP (aFl A a).1 pp = pp := if_pos c_15
    have e2_ : chU (aFl A a).1 un = un := if_pos c_15
    exact ⟨_, _, rfl, rfl, by rw [e1_, e2_]; exact b0, hs, hbt, hps, hag⟩
  · skip
    refine x_aload_n hC d_MessageCoder_change_18 rfl rfl ?_
    refine x_callV hC kv_MessageCoder_410 (c_MessageCoder_countChange (b0 := b0) (hpp := by omega) (hun := by omega)) b0 rfl rfl (by decide) rfl rfl rfl (Nat.le_of_ble_eq_true rfl) (by decide) d_MessageCoder_change_19 (fun r9 F9 z9 hp9 => ?_)
    obtain ⟨rfl, h9c, j0, hag9⟩ := hp9
    rw [h9c]
    clear h9c z9
    generalize F9 = F3 at *
    have hpa : F3 (b + 99) = some (.inr (4, 9, pf)) := (hag9 _ (by omega)).trans hpa
    have hps : xPs F3 (b) ((updA past (pp % 9) A)) := xPs_fr hps (fun a9 q1 q2 => hag9 a9 (by omega))
    have hs : xSt F3 (b + 1) ((aFl A a).2) := xSt_fr hs (fun a9 q1 q2 => hag9 a9 (by omega))
    have hbt : xBt F3 (b + 109) (nb1_8) (fb1_8) := xBt_fr hbt (fun a9 q1 q2 => hag9 a9 (by omega))
    have b0 : F3 (b) = some (.inl (9, [.ref (b + 1), .ref (b + 50), .ref (b + 99), .ref (b + 100), .ref (b + 107), .ref (b + 109), .ref (b + 111), .ref (b + 122), .ref (b + 124), .int (nI (sv)), .int (nI (pp + 1)), .int (nI (un1 un)), .int ep, .int fc])) := j0
    have hag : ∀ a9 : Nat, (a9 < b ∨ b + 1 ≤ a9) → (a9 < b + 1 ∨ b + 1 + 49 ≤ a9) → (a9 < b + 109 ∨ b + 109 + 2 ≤ a9) → (a9 < b + 125 ∨ b + 125 + 441 ≤ a9) → F3 a9 = F a9 := fun a9 q0 q1 q2 q3 => (hag9 a9 (by omega)).trans (hag a9 q0 q1 q2 q3)
    have hg_19 := hag9
    clear hag9
    refine x_iload hC d_MessageCoder_change_22 rfl ?_
    refine hret _ _ _ _ _ _ _ d_MessageCoder_change_24 (by decide) (by decide) rfl ?_
    have e1_ : chP (aFl A a).1 pp = pp + 1 := if_neg c_15
    have e2_ : chU (aFl A a).1 un = un1 un := if_neg c_15
    exact ⟨_, _, rfl, rfl, by rw [e1_, e2_]; exact b0, hs, hbt, hps, hag⟩

set_option maxHeartbeats 4000000 in
set_option maxRecDepth 20000 in
theorem c_MessageCoder_change9 {P : xP} {F : xF} {z : Nat} {b : Nat} {cm : cmT} {sm : Nat} {sv : Nat} {pp : Nat} {un : Nat} {ep : Int32} {fc : Int32} {A : aS} {nb : Nat} {fb9 : Nat → Nat} {pf : Nat → Value} {past : Nat → aS} {a : Int32} {x : Int32} (b0 : F (b) = some (.inl (9, [.ref (b + 1), .ref (b + 50), .ref (b + 99), .ref (b + 100), .ref (b + 107), .ref (b + 109), .ref (b + 111), .ref (b + 122), .ref (b + 124), .int (nI (sv)), .int (nI (pp)), .int (nI (un)), .int ep, .int fc]))) (hs : xSt F (b + 1) (A)) (hbt : xBt F (b + 109) (nb) (fb9)) (hpa : F (b + 99) = some (.inr (4, 9, pf))) (hps : xPs F (b) (past)) (hCM : xCM P cm) (hSM : xSM P sm) (hpf : ∀ i, i < 9 → pf i = .ref (b + 125 + 49 * i)) (hpp : pp < 100000) (hun : un < 100000) : xM P xy_MessageCoder_change [.ref b, .ref (cm.2.1 9), .int a, .int x] F (z) 0 0 (fun r9 F9 z9 => ∃ nb1 : Nat, ∃ fb1 : Nat → Nat, r9 = some (.int ((aRe A).1)) ∧ z9 = z ∧ F9 (b) = some (.inl (9, [.ref (b + 1), .ref (b + 50), .ref (b + 99), .ref (b + 100), .ref (b + 107), .ref (b + 109), .ref (b + 111), .ref (b + 122), .ref (b + 124), .int (nI (sv)), .int (nI (chP (aRe A).1 pp)), .int (nI (chU (aRe A).1 un)), .int ep, .int fc])) ∧ xSt F9 (b + 1) ((aRe A).2) ∧ xBt F9 (b + 109) (nb1) (fb1) ∧ xPs F9 (b) ((updA past (pp % 9) A)) ∧ (∀ a9 : Nat, (a9 < b ∨ b + 1 ≤ a9) → (a9 < b + 1 ∨ b + 1 + 49 ≤ a9) → (a9 < b + 109 ∨ b + 109 + 2 ≤ a9) → (a9 < b + 125 ∨ b + 125 + 441 ≤ a9) → F9 a9 = F a9)) := by
  refine xM_i .int rfl (Nat.le_of_ble_eq_true rfl) (L0 := [some (.ref b), some (.ref (cm.2.1 9)), some (.int a), some (.int x), none]) rfl rfl fun Θ hC hret => ?_
  have hag : ∀ a9 : Nat, (a9 < b ∨ b + 1 ≤ a9) → (a9 < b + 1 ∨ b + 1 + 49 ≤ a9) → (a9 < b + 109 ∨ b + 109 + 2 ≤ a9) → (a9 < b + 125 ∨ b + 125 + 441 ≤ a9) → F a9 = F a9 := fun a9 _ _ _ _ => rfl
  refine x_aload_n hC d_MessageCoder_change_0 rfl rfl ?_
  refine x_callV hC kv_MessageCoder_404 (c_MessageCoder_keepBefore (b0 := b0) (hpa := hpa) (hs := hs) (hps := hps) (hpf := hpf) (hpp := by omega)) b0 rfl rfl (by decide) rfl rfl rfl (Nat.le_of_ble_eq_true rfl) (by decide) d_MessageCoder_change_1 (fun r9 F9 z9 hp9 => ?_)
  obtain ⟨rfl, h9c, j0, hag9⟩ := hp9
  rw [h9c]
  clear h9c z9
  generalize F9 = F1 at *
  have b0 : F1 (b) = some (.inl (9, [.ref (b + 1), .ref (b + 50), .ref (b + 99), .ref (b + 100), .ref (b + 107), .ref (b + 109), .ref (b + 111), .ref (b + 122), .ref (b + 124), .int (nI (sv)), .int (nI (pp)), .int (nI (un)), .int ep, .int fc])) := (hag9 _ (by omega)).trans b0
  have hs : xSt F1 (b + 1) (A) := xSt_fr hs (fun a9 q1 q2 => hag9 a9 (by omega))
  have hbt : xBt F1 (b + 109) (nb) (fb9) := xBt_fr hbt (fun a9 q1 q2 => hag9 a9 (by omega))
  have hpa : F1 (b + 99) = some (.inr (4, 9, pf)) := (hag9 _ (by omega)).trans hpa
  have hps : xPs F1 (b) ((updA past (pp % 9) A)) := j0
  have hag : ∀ a9 : Nat, (a9 < b ∨ b + 1 ≤ a9) → (a9 < b + 1 ∨ b + 1 + 49 ≤ a9) → (a9 < b + 109 ∨ b + 109 + 2 ≤ a9) → (a9 < b + 125 ∨ b + 125 + 441 ≤ a9) → F1 a9 = F a9 := fun a9 q0 q1 q2 q3 => (hag9 a9 (by omega)).trans (hag a9 q0 q1 q2 q3)
  have hg_1 := hag9
  clear hag9
  refine x_aload_n hC d_MessageCoder_change_4 rfl rfl ?_
  refine x_aload_n hC d_MessageCoder_change_5 rfl rfl ?_
  refine x_iload_n hC d_MessageCoder_change_6 rfl rfl ?_
  refine x_iload_n hC d_MessageCoder_change_7 rfl rfl ?_
  refine x_callV hC kv_MessageCoder_407 (c_MessageCoder_perform9 (b0 := b0) (hs := hs) (hbt := hbt) (hCM := hCM) (hSM := hSM)) b0 rfl rfl (by decide) rfl rfl rfl (Nat.le_of_ble_eq_true rfl) (by decide) d_MessageCoder_change_8 (fun r9 F9 z9 hp9 => ?_)
  obtain ⟨nb1_8, fb1_8, rfl, h9c, j0, j1, hag9⟩ := hp9
  rw [h9c]
  clear h9c z9
  generalize F9 = F2 at *
  have b0 : F2 (b) = some (.inl (9, [.ref (b + 1), .ref (b + 50), .ref (b + 99), .ref (b + 100), .ref (b + 107), .ref (b + 109), .ref (b + 111), .ref (b + 122), .ref (b + 124), .int (nI (sv)), .int (nI (pp)), .int (nI (un)), .int ep, .int fc])) := (hag9 _ (by omega) (by omega)).trans b0
  have hpa : F2 (b + 99) = some (.inr (4, 9, pf)) := (hag9 _ (by omega) (by omega)).trans hpa
  have hps : xPs F2 (b) ((updA past (pp % 9) A)) := xPs_fr hps (fun a9 q1 q2 => hag9 a9 (by omega) (by omega))
  have hs : xSt F2 (b + 1) ((aRe A).2) := j0
  have hbt : xBt F2 (b + 109) (nb1_8) (fb1_8) := j1
  have hag : ∀ a9 : Nat, (a9 < b ∨ b + 1 ≤ a9) → (a9 < b + 1 ∨ b + 1 + 49 ≤ a9) → (a9 < b + 109 ∨ b + 109 + 2 ≤ a9) → (a9 < b + 125 ∨ b + 125 + 441 ≤ a9) → F2 a9 = F a9 := fun a9 q0 q1 q2 q3 => (hag9 a9 (by omega) (by omega)).trans (hag a9 q0 q1 q2 q3)
  have hg_8 := hag9
  clear hag9
  refine x_istore hC d_MessageCoder_change_11 (Nat.le_of_ble_eq_true rfl) (L1 := [some (.ref b), some (.ref (cm.2.1 9)), some (.int a), some (.int x), some (.int ((aRe A).1))]) rfl ?_
  refine x_iload hC d_MessageCoder_change_13 rfl ?_
  refine x_if_lt hC d_MessageCoder_change_15 (tgt := 22) (by decide) (fun c_15 => ?_) (fun c_15 => ?_)
  · skip
    refine x_iload hC d_MessageCoder_change_22 rfl ?_
    refine hret _ _ _ _ _ _ _ d_MessageCoder_change_24 (by decide) (by decide) rfl ?_
    have e1_ : chP (aRe A).1 pp = pp := if_pos c_15
    have e2_ : chU (aRe A).1 un = un := if_pos c_15
    exact ⟨_, _, rfl, rfl, by rw [e1_, e2_]; exact b0, hs, hbt, hps, hag⟩
  · skip
    refine x_aload_n hC d_MessageCoder_change_18 rfl rfl ?_
    refine x_callV hC kv_MessageCoder_410 (c_MessageCoder_countChange (b0 := b0) (hpp := by omega) (hun := by omega)) b0 rfl rfl (by decide) rfl rfl rfl (Nat.le_of_ble_eq_true rfl) (by decide) d_MessageCoder_change_19 (fun r9 F9 z9 hp9 => ?_)
    obtain ⟨rfl, h9c, j0, hag9⟩ := hp9
    rw [h9c]
    clear h9c z9
    generalize F9 = F3 at *
    have hpa : F3 (b + 99) = some (.inr (4, 9, pf)) := (hag9 _ (by omega)).trans hpa
    have hps : xPs F3 (b) ((updA past (pp % 9) A)) := xPs_fr hps (fun a9 q1 q2 => hag9 a9 (by omega))
    have hs : xSt F3 (b + 1) ((aRe A).2) := xSt_fr hs (fun a9 q1 q2 => hag9 a9 (by omega))
    have hbt : xBt F3 (b + 109) (nb1_8) (fb1_8) := xBt_fr hbt (fun a9 q1 q2 => hag9 a9 (by omega))
    have b0 : F3 (b) = some (.inl (9, [.ref (b + 1), .ref (b + 50), .ref (b + 99), .ref (b + 100), .ref (b + 107), .ref (b + 109), .ref (b + 111), .ref (b + 122), .ref (b + 124), .int (nI (sv)), .int (nI (pp + 1)), .int (nI (un1 un)), .int ep, .int fc])) := j0
    have hag : ∀ a9 : Nat, (a9 < b ∨ b + 1 ≤ a9) → (a9 < b + 1 ∨ b + 1 + 49 ≤ a9) → (a9 < b + 109 ∨ b + 109 + 2 ≤ a9) → (a9 < b + 125 ∨ b + 125 + 441 ≤ a9) → F3 a9 = F a9 := fun a9 q0 q1 q2 q3 => (hag9 a9 (by omega)).trans (hag a9 q0 q1 q2 q3)
    have hg_19 := hag9
    clear hag9
    refine x_iload hC d_MessageCoder_change_22 rfl ?_
    refine hret _ _ _ _ _ _ _ d_MessageCoder_change_24 (by decide) (by decide) rfl ?_
    have e1_ : chP (aRe A).1 pp = pp + 1 := if_neg c_15
    have e2_ : chU (aRe A).1 un = un1 un := if_neg c_15
    exact ⟨_, _, rfl, rfl, by rw [e1_, e2_]; exact b0, hs, hbt, hps, hag⟩

theorem d_MessageCoder_setWeight_0 : decode prog_1_method_2_code 0 = .ok (.aload_n 0, 1) := by decide +kernel
theorem d_MessageCoder_setWeight_1 : decode prog_1_method_2_code 1 = .ok (.getstatic 67, 3) := by decide +kernel
theorem d_MessageCoder_setWeight_4 : decode prog_1_method_2_code 4 = .ok (.iload_n 1, 1) := by decide +kernel
theorem d_MessageCoder_setWeight_5 : decode prog_1_method_2_code 5 = .ok (.iload_n 2, 1) := by decide +kernel
theorem d_MessageCoder_setWeight_6 : decode prog_1_method_2_code 6 = .ok (.invokevirtual 73, 3) := by decide +kernel
theorem d_MessageCoder_setWeight_9 : decode prog_1_method_2_code 9 = .ok (.istore_n 3, 1) := by decide +kernel
theorem d_MessageCoder_setWeight_10 : decode prog_1_method_2_code 10 = .ok (.iload_n 3, 1) := by decide +kernel
theorem d_MessageCoder_setWeight_11 : decode prog_1_method_2_code 11 = .ok (.iconst (-1), 1) := by decide +kernel
theorem d_MessageCoder_setWeight_12 : decode prog_1_method_2_code 12 = .ok (.if_icmp .ne 13, 3) := by decide +kernel
theorem d_MessageCoder_setWeight_15 : decode prog_1_method_2_code 15 = .ok (.new 77, 3) := by decide +kernel
theorem d_MessageCoder_setWeight_18 : decode prog_1_method_2_code 18 = .ok (.dup, 1) := by decide +kernel
theorem d_MessageCoder_setWeight_19 : decode prog_1_method_2_code 19 = .ok (.ldc 79, 2) := by decide +kernel
theorem d_MessageCoder_setWeight_21 : decode prog_1_method_2_code 21 = .ok (.invokespecial 81, 3) := by decide +kernel
theorem d_MessageCoder_setWeight_24 : decode prog_1_method_2_code 24 = .ok (.athrow, 1) := by decide +kernel
theorem d_MessageCoder_setWeight_25 : decode prog_1_method_2_code 25 = .ok (.iload_n 3, 1) := by decide +kernel
theorem d_MessageCoder_setWeight_26 : decode prog_1_method_2_code 26 = .ok (.ireturn, 1) := by decide +kernel
set_option maxHeartbeats 4000000 in
set_option maxRecDepth 20000 in
theorem c_MessageCoder_setWeight {P : xP} {F : xF} {z : Nat} {b : Nat} {cm : cmT} {M : mcS} {sm : Nat} {c : Nat} {x : Int32} (hM : xMC F (cm) (b) (M)) (hCM : xCM P cm) (hSM : xSM P sm) (hZx : xZx P) (hpp0 : M.2.2.2.2.2.2.1 < 100000) (hun0 : M.2.2.2.2.2.2.2.1 < 100000) (hc0 : c < 65536) : xMx P xy_MessageCoder_setWeight [.ref b, .int (nI (c)), .int x] F (z) 1 6 (fun r9 F9 z9 => r9 = some (.int ((aWt M.1 c x).1)) ∧ z9 = z ∧ xMC F9 (cm) (b) ((chgM M (aWt M.1 c x))) ∧ (¬ (aWt M.1 c x).1 = -1) ∧ (∀ a9 : Nat, (a9 < b ∨ b + 566 ≤ a9) → F9 a9 = F a9)) (fun E9 F9 z9 => (E9 = "java/lang/IllegalArgumentException" ∧ xMC F9 (cm) (b) ((chgM M (aWt M.1 c x))) ∧ ((aWt M.1 c x).1 = -1) ∧ (∀ a9 : Nat, (a9 < b ∨ b + 566 ≤ a9) → F9 a9 = F a9))) := by
  refine xMx_i .int rfl (Nat.le_of_ble_eq_true rfl) (L0 := [some (.ref b), some (.int (nI (c))), some (.int x), none]) rfl rfl fun Θ hC hR hret => ?_
  have hag : ∀ a9 : Nat, (a9 < b ∨ b + 566 ≤ a9) → F a9 = F a9 := fun a9 _ => rfl
  obtain ⟨A, S, past, ⟨pn, psg⟩, ⟨lnn, lsg⟩, sv, pp, un, ep, fc⟩ := M
  obtain ⟨b0, hs, hv, ⟨pf, hpa, hpf⟩, ⟨cc, pa, f1, f2, hf, K, p0, hK⟩, hin, hli, ⟨nb, fb9, hbt⟩, hrg, ⟨tn, tsg, htr⟩, ⟨cr, hcr⟩, hps⟩ := id hM
  have b0 : F (b) = some (.inl (9, [.ref (b + 1), .ref (b + 50), .ref (b + 99), .ref (b + 100), .ref (b + 107), .ref (b + 109), .ref (b + 111), .ref (b + 122), .ref (b + 124), .int (nI (sv)), .int (nI (pp)), .int (nI (un)), .int ep, .int fc])) := b0
  have hs : xSt F (b + 1) (A) := hs
  have hv : xSt F (b + 50) (S) := hv
  have hpa : F (b + 99) = some (.inr (4, 9, pf)) := hpa
  have p0 : F (b + 100) = some (.inl (4, [.ref (b + 101), .ref (b + 103), .ref (b + 104), .ref (b + 105), .ref (b + 106), .int (nI (K.1)), .int (nI (cc)), .int (nI (pa)), .int (nI (f1)), .int (nI (f2)), .int (nI (hf))])) := p0
  have hK : xPk F (b + 100) (cm.2.1) (K) := hK
  have hin : xTx F (b + 101) (60) (pn) (psg) := hin
  have hli : xTx F (b + 107) (32) (lnn) (lsg) := hli
  have hbt : xBt F (b + 109) (nb) (fb9) := hbt
  have hrg : xRg F (b + 111) := hrg
  have htr : xTx F (b + 122) (16) (tn) (tsg) := htr
  have hcr : F (b + 124) = some (.inr (0, 17, fun b9 => .int (nI (cr b9)))) := hcr
  have hps : xPs F (b) (past) := hps
  have hpp : pp < 100000 := hpp0
  have hun : un < 100000 := hun0
  refine x_aload_n hC d_MessageCoder_setWeight_0 rfl rfl ?_
  refine x_gets hC (v := .ref (cm.2.1 0)) (hCM.2.2.2.2.2.2.2 0 (by decide)) (x_in (x_of (xtb_4 (List.mem_of_getElem? (i := 188) (by decide +kernel)))) (by decide +kernel)) d_MessageCoder_setWeight_1 ?_
  refine x_iload_n hC d_MessageCoder_setWeight_4 rfl rfl ?_
  refine x_iload_n hC d_MessageCoder_setWeight_5 rfl rfl ?_
  refine x_callV hC kv_MessageCoder_73 (c_MessageCoder_change0 (b0 := b0) (hs := hs) (hbt := hbt) (hpa := hpa) (hps := hps) (hCM := hCM) (hSM := hSM) (hpf := hpf) (hpp := by omega) (hun := by omega) (hc0 := hc0)) b0 rfl rfl (by decide) rfl rfl rfl (Nat.le_of_ble_eq_true rfl) (by decide) d_MessageCoder_setWeight_6 (fun r9 F9 z9 hp9 => ?_)
  obtain ⟨nb1_6, fb1_6, rfl, h9c, j0, j1, j2, j3, hag9⟩ := hp9
  rw [h9c]
  clear h9c z9
  generalize F9 = F1 at *
  have hv : xSt F1 (b + 50) (S) := xSt_fr hv (fun a9 q1 q2 => hag9 a9 (by omega) (by omega) (by omega) (by omega))
  have hpa : F1 (b + 99) = some (.inr (4, 9, pf)) := (hag9 _ (by omega) (by omega) (by omega) (by omega)).trans hpa
  have p0 : F1 (b + 100) = some (.inl (4, [.ref (b + 101), .ref (b + 103), .ref (b + 104), .ref (b + 105), .ref (b + 106), .int (nI (K.1)), .int (nI (cc)), .int (nI (pa)), .int (nI (f1)), .int (nI (f2)), .int (nI (hf))])) := (hag9 _ (by omega) (by omega) (by omega) (by omega)).trans p0
  have hK : xPk F1 (b + 100) (cm.2.1) (K) := xPk_fr hK (fun a9 q1 q2 => hag9 a9 (by omega) (by omega) (by omega) (by omega))
  have hin : xTx F1 (b + 101) (60) (pn) (psg) := xTx_fr hin (fun a9 q1 q2 => hag9 a9 (by omega) (by omega) (by omega) (by omega))
  have hli : xTx F1 (b + 107) (32) (lnn) (lsg) := xTx_fr hli (fun a9 q1 q2 => hag9 a9 (by omega) (by omega) (by omega) (by omega))
  have hrg : xRg F1 (b + 111) := xRg_fr hrg (fun a9 q1 q2 => hag9 a9 (by omega) (by omega) (by omega) (by omega))
  have htr : xTx F1 (b + 122) (16) (tn) (tsg) := xTx_fr htr (fun a9 q1 q2 => hag9 a9 (by omega) (by omega) (by omega) (by omega))
  have hcr : F1 (b + 124) = some (.inr (0, 17, fun b9 => .int (nI (cr b9)))) := (hag9 _ (by omega) (by omega) (by omega) (by omega)).trans hcr
  have b0 : F1 (b) = some (.inl (9, [.ref (b + 1), .ref (b + 50), .ref (b + 99), .ref (b + 100), .ref (b + 107), .ref (b + 109), .ref (b + 111), .ref (b + 122), .ref (b + 124), .int (nI (sv)), .int (nI (chP (aWt A c x).1 pp)), .int (nI (chU (aWt A c x).1 un)), .int ep, .int fc])) := j0
  have hs : xSt F1 (b + 1) ((aWt A c x).2) := j1
  have hbt : xBt F1 (b + 109) (nb1_6) (fb1_6) := j2
  have hps : xPs F1 (b) ((updA past (pp % 9) A)) := j3
  have hag : ∀ a9 : Nat, (a9 < b ∨ b + 566 ≤ a9) → F1 a9 = F a9 := fun a9 q0 => (hag9 a9 (by omega) (by omega) (by omega) (by omega)).trans (hag a9 q0)
  have hg_6 := hag9
  clear hag9
  refine x_istore_n hC d_MessageCoder_setWeight_9 rfl (Nat.le_of_ble_eq_true rfl) (L1 := [some (.ref b), some (.int (nI (c))), some (.int x), some (.int ((aWt A c x).1))]) rfl ?_
  refine x_iload_n hC d_MessageCoder_setWeight_10 rfl rfl ?_
  refine x_iconst hC d_MessageCoder_setWeight_11 (v := -1) (by decide) ?_
  refine x_icmp_ne hC d_MessageCoder_setWeight_12 (tgt := 25) (by decide) (fun c_12 => ?_) (fun c_12 => ?_)
  · skip
    refine x_iload_n hC d_MessageCoder_setWeight_25 rfl rfl ?_
    exact hret _ _ _ _ _ _ _ d_MessageCoder_setWeight_26 (by decide) (by decide) rfl (⟨rfl, rfl, ⟨b0, hs, hv, ⟨pf, hpa, hpf⟩, ⟨_, _, _, _, _, _, p0, hK⟩, hin, hli, ⟨_, _, hbt⟩, hrg, ⟨_, _, htr⟩, ⟨_, hcr⟩, hps⟩, c_12, hag⟩)
  · skip
    refine x_thr hC hR hZx (xtw2_IllegalArgumentException _ _ xsr_79) rfl (Nat.le_of_ble_eq_true rfl) (by decide) (by decide) d_MessageCoder_setWeight_15 d_MessageCoder_setWeight_18 d_MessageCoder_setWeight_19 d_MessageCoder_setWeight_21 d_MessageCoder_setWeight_24 (fun z9 hz9 => ?_)
    exact ⟨rfl, ⟨b0, hs, hv, ⟨pf, hpa, hpf⟩, ⟨_, _, _, _, _, _, p0, hK⟩, hin, hli, ⟨_, _, hbt⟩, hrg, ⟨_, _, htr⟩, ⟨_, hcr⟩, hps⟩, c_12, hag⟩

theorem d_MessageCoder_addSymbol_0 : decode prog_1_method_3_code 0 = .ok (.aload_n 0, 1) := by decide +kernel
theorem d_MessageCoder_addSymbol_1 : decode prog_1_method_3_code 1 = .ok (.getstatic 84, 3) := by decide +kernel
theorem d_MessageCoder_addSymbol_4 : decode prog_1_method_3_code 4 = .ok (.iload_n 1, 1) := by decide +kernel
theorem d_MessageCoder_addSymbol_5 : decode prog_1_method_3_code 5 = .ok (.iconst 0, 1) := by decide +kernel
theorem d_MessageCoder_addSymbol_6 : decode prog_1_method_3_code 6 = .ok (.invokevirtual 73, 3) := by decide +kernel
theorem d_MessageCoder_addSymbol_9 : decode prog_1_method_3_code 9 = .ok (.istore_n 2, 1) := by decide +kernel
theorem d_MessageCoder_addSymbol_10 : decode prog_1_method_3_code 10 = .ok (.iload_n 2, 1) := by decide +kernel
theorem d_MessageCoder_addSymbol_11 : decode prog_1_method_3_code 11 = .ok (.iconst (-1), 1) := by decide +kernel
theorem d_MessageCoder_addSymbol_12 : decode prog_1_method_3_code 12 = .ok (.if_icmp .ne 13, 3) := by decide +kernel
theorem d_MessageCoder_addSymbol_15 : decode prog_1_method_3_code 15 = .ok (.new 77, 3) := by decide +kernel
theorem d_MessageCoder_addSymbol_18 : decode prog_1_method_3_code 18 = .ok (.dup, 1) := by decide +kernel
theorem d_MessageCoder_addSymbol_19 : decode prog_1_method_3_code 19 = .ok (.ldc 87, 2) := by decide +kernel
theorem d_MessageCoder_addSymbol_21 : decode prog_1_method_3_code 21 = .ok (.invokespecial 81, 3) := by decide +kernel
theorem d_MessageCoder_addSymbol_24 : decode prog_1_method_3_code 24 = .ok (.athrow, 1) := by decide +kernel
theorem d_MessageCoder_addSymbol_25 : decode prog_1_method_3_code 25 = .ok (.iload_n 2, 1) := by decide +kernel
theorem d_MessageCoder_addSymbol_26 : decode prog_1_method_3_code 26 = .ok (.bipush (-2), 2) := by decide +kernel
theorem d_MessageCoder_addSymbol_28 : decode prog_1_method_3_code 28 = .ok (.if_icmp .ne 13, 3) := by decide +kernel
theorem d_MessageCoder_addSymbol_31 : decode prog_1_method_3_code 31 = .ok (.new 89, 3) := by decide +kernel
theorem d_MessageCoder_addSymbol_34 : decode prog_1_method_3_code 34 = .ok (.dup, 1) := by decide +kernel
theorem d_MessageCoder_addSymbol_35 : decode prog_1_method_3_code 35 = .ok (.ldc 91, 2) := by decide +kernel
theorem d_MessageCoder_addSymbol_37 : decode prog_1_method_3_code 37 = .ok (.invokespecial 93, 3) := by decide +kernel
theorem d_MessageCoder_addSymbol_40 : decode prog_1_method_3_code 40 = .ok (.athrow, 1) := by decide +kernel
theorem d_MessageCoder_addSymbol_41 : decode prog_1_method_3_code 41 = .ok (.iload_n 2, 1) := by decide +kernel
theorem d_MessageCoder_addSymbol_42 : decode prog_1_method_3_code 42 = .ok (.ireturn, 1) := by decide +kernel
set_option maxHeartbeats 4000000 in
set_option maxRecDepth 20000 in
theorem c_MessageCoder_addSymbol {P : xP} {F : xF} {z : Nat} {b : Nat} {cm : cmT} {M : mcS} {sm : Nat} {c : Nat} (hM : xMC F (cm) (b) (M)) (hCM : xCM P cm) (hSM : xSM P sm) (hZx : xZx P) (hpp0 : M.2.2.2.2.2.2.1 < 100000) (hun0 : M.2.2.2.2.2.2.2.1 < 100000) (hc0 : c < 65536) : xMx P xy_MessageCoder_addSymbol [.ref b, .int (nI (c))] F (z) 1 6 (fun r9 F9 z9 => r9 = some (.int ((aDr M.1 c).1)) ∧ z9 = z ∧ xMC F9 (cm) (b) ((chgM M (aDr M.1 c))) ∧ (¬ (aDr M.1 c).1 = -1) ∧ (¬ (aDr M.1 c).1 = -2) ∧ (∀ a9 : Nat, (a9 < b ∨ b + 566 ≤ a9) → F9 a9 = F a9)) (fun E9 F9 z9 => (E9 = "java/lang/IllegalArgumentException" ∧ xMC F9 (cm) (b) ((chgM M (aDr M.1 c))) ∧ ((aDr M.1 c).1 = -1) ∧ (∀ a9 : Nat, (a9 < b ∨ b + 566 ≤ a9) → F9 a9 = F a9)) ∨ (E9 = "java/lang/IllegalStateException" ∧ xMC F9 (cm) (b) ((chgM M (aDr M.1 c))) ∧ ((aDr M.1 c).1 = -2) ∧ (∀ a9 : Nat, (a9 < b ∨ b + 566 ≤ a9) → F9 a9 = F a9))) := by
  refine xMx_i .int rfl (Nat.le_of_ble_eq_true rfl) (L0 := [some (.ref b), some (.int (nI (c))), none]) rfl rfl fun Θ hC hR hret => ?_
  have hag : ∀ a9 : Nat, (a9 < b ∨ b + 566 ≤ a9) → F a9 = F a9 := fun a9 _ => rfl
  obtain ⟨A, S, past, ⟨pn, psg⟩, ⟨lnn, lsg⟩, sv, pp, un, ep, fc⟩ := M
  obtain ⟨b0, hs, hv, ⟨pf, hpa, hpf⟩, ⟨cc, pa, f1, f2, hf, K, p0, hK⟩, hin, hli, ⟨nb, fb9, hbt⟩, hrg, ⟨tn, tsg, htr⟩, ⟨cr, hcr⟩, hps⟩ := id hM
  have b0 : F (b) = some (.inl (9, [.ref (b + 1), .ref (b + 50), .ref (b + 99), .ref (b + 100), .ref (b + 107), .ref (b + 109), .ref (b + 111), .ref (b + 122), .ref (b + 124), .int (nI (sv)), .int (nI (pp)), .int (nI (un)), .int ep, .int fc])) := b0
  have hs : xSt F (b + 1) (A) := hs
  have hv : xSt F (b + 50) (S) := hv
  have hpa : F (b + 99) = some (.inr (4, 9, pf)) := hpa
  have p0 : F (b + 100) = some (.inl (4, [.ref (b + 101), .ref (b + 103), .ref (b + 104), .ref (b + 105), .ref (b + 106), .int (nI (K.1)), .int (nI (cc)), .int (nI (pa)), .int (nI (f1)), .int (nI (f2)), .int (nI (hf))])) := p0
  have hK : xPk F (b + 100) (cm.2.1) (K) := hK
  have hin : xTx F (b + 101) (60) (pn) (psg) := hin
  have hli : xTx F (b + 107) (32) (lnn) (lsg) := hli
  have hbt : xBt F (b + 109) (nb) (fb9) := hbt
  have hrg : xRg F (b + 111) := hrg
  have htr : xTx F (b + 122) (16) (tn) (tsg) := htr
  have hcr : F (b + 124) = some (.inr (0, 17, fun b9 => .int (nI (cr b9)))) := hcr
  have hps : xPs F (b) (past) := hps
  have hpp : pp < 100000 := hpp0
  have hun : un < 100000 := hun0
  refine x_aload_n hC d_MessageCoder_addSymbol_0 rfl rfl ?_
  refine x_gets hC (v := .ref (cm.2.1 1)) (hCM.2.2.2.2.2.2.2 1 (by decide)) (x_in (x_of (xtb_5 (List.mem_of_getElem? (i := 113) (by decide +kernel)))) (by decide +kernel)) d_MessageCoder_addSymbol_1 ?_
  refine x_iload_n hC d_MessageCoder_addSymbol_4 rfl rfl ?_
  refine x_iconst hC d_MessageCoder_addSymbol_5 (v := nI 0) (by decide) ?_
  refine x_callV hC kv_MessageCoder_73 (c_MessageCoder_change1 (b0 := b0) (hs := hs) (hbt := hbt) (hpa := hpa) (hps := hps) (hCM := hCM) (hSM := hSM) (hpf := hpf) (hpp := by omega) (hun := by omega) (hc0 := hc0)) b0 rfl rfl (by decide) rfl rfl rfl (Nat.le_of_ble_eq_true rfl) (by decide) d_MessageCoder_addSymbol_6 (fun r9 F9 z9 hp9 => ?_)
  obtain ⟨nb1_6, fb1_6, rfl, h9c, j0, j1, j2, j3, hag9⟩ := hp9
  rw [h9c]
  clear h9c z9
  generalize F9 = F1 at *
  have hv : xSt F1 (b + 50) (S) := xSt_fr hv (fun a9 q1 q2 => hag9 a9 (by omega) (by omega) (by omega) (by omega))
  have hpa : F1 (b + 99) = some (.inr (4, 9, pf)) := (hag9 _ (by omega) (by omega) (by omega) (by omega)).trans hpa
  have p0 : F1 (b + 100) = some (.inl (4, [.ref (b + 101), .ref (b + 103), .ref (b + 104), .ref (b + 105), .ref (b + 106), .int (nI (K.1)), .int (nI (cc)), .int (nI (pa)), .int (nI (f1)), .int (nI (f2)), .int (nI (hf))])) := (hag9 _ (by omega) (by omega) (by omega) (by omega)).trans p0
  have hK : xPk F1 (b + 100) (cm.2.1) (K) := xPk_fr hK (fun a9 q1 q2 => hag9 a9 (by omega) (by omega) (by omega) (by omega))
  have hin : xTx F1 (b + 101) (60) (pn) (psg) := xTx_fr hin (fun a9 q1 q2 => hag9 a9 (by omega) (by omega) (by omega) (by omega))
  have hli : xTx F1 (b + 107) (32) (lnn) (lsg) := xTx_fr hli (fun a9 q1 q2 => hag9 a9 (by omega) (by omega) (by omega) (by omega))
  have hrg : xRg F1 (b + 111) := xRg_fr hrg (fun a9 q1 q2 => hag9 a9 (by omega) (by omega) (by omega) (by omega))
  have htr : xTx F1 (b + 122) (16) (tn) (tsg) := xTx_fr htr (fun a9 q1 q2 => hag9 a9 (by omega) (by omega) (by omega) (by omega))
  have hcr : F1 (b + 124) = some (.inr (0, 17, fun b9 => .int (nI (cr b9)))) := (hag9 _ (by omega) (by omega) (by omega) (by omega)).trans hcr
  have b0 : F1 (b) = some (.inl (9, [.ref (b + 1), .ref (b + 50), .ref (b + 99), .ref (b + 100), .ref (b + 107), .ref (b + 109), .ref (b + 111), .ref (b + 122), .ref (b + 124), .int (nI (sv)), .int (nI (chP (aDr A c).1 pp)), .int (nI (chU (aDr A c).1 un)), .int ep, .int fc])) := j0
  have hs : xSt F1 (b + 1) ((aDr A c).2) := j1
  have hbt : xBt F1 (b + 109) (nb1_6) (fb1_6) := j2
  have hps : xPs F1 (b) ((updA past (pp % 9) A)) := j3
  have hag : ∀ a9 : Nat, (a9 < b ∨ b + 566 ≤ a9) → F1 a9 = F a9 := fun a9 q0 => (hag9 a9 (by omega) (by omega) (by omega) (by omega)).trans (hag a9 q0)
  have hg_6 := hag9
  clear hag9
  refine x_istore_n hC d_MessageCoder_addSymbol_9 rfl (Nat.le_of_ble_eq_true rfl) (L1 := [some (.ref b), some (.int (nI (c))), some (.int ((aDr A c).1))]) rfl ?_
  refine x_iload_n hC d_MessageCoder_addSymbol_10 rfl rfl ?_
  refine x_iconst hC d_MessageCoder_addSymbol_11 (v := -1) (by decide) ?_
  refine x_icmp_ne hC d_MessageCoder_addSymbol_12 (tgt := 25) (by decide) (fun c_12 => ?_) (fun c_12 => ?_)
  · skip
    refine x_iload_n hC d_MessageCoder_addSymbol_25 rfl rfl ?_
    refine x_bipush hC d_MessageCoder_addSymbol_26 (v := -2) (by decide) ?_
    refine x_icmp_ne hC d_MessageCoder_addSymbol_28 (tgt := 41) (by decide) (fun c_28 => ?_) (fun c_28 => ?_)
    · skip
      refine x_iload_n hC d_MessageCoder_addSymbol_41 rfl rfl ?_
      exact hret _ _ _ _ _ _ _ d_MessageCoder_addSymbol_42 (by decide) (by decide) rfl (⟨rfl, rfl, ⟨b0, hs, hv, ⟨pf, hpa, hpf⟩, ⟨_, _, _, _, _, _, p0, hK⟩, hin, hli, ⟨_, _, hbt⟩, hrg, ⟨_, _, htr⟩, ⟨_, hcr⟩, hps⟩, c_12, c_28, hag⟩)
    · skip
      refine x_thr hC hR hZx (xtw2_IllegalStateException _ _ xsr_91) rfl (Nat.le_of_ble_eq_true rfl) (by decide) (by decide) d_MessageCoder_addSymbol_31 d_MessageCoder_addSymbol_34 d_MessageCoder_addSymbol_35 d_MessageCoder_addSymbol_37 d_MessageCoder_addSymbol_40 (fun z9 hz9 => ?_)
      exact Or.inr (⟨rfl, ⟨b0, hs, hv, ⟨pf, hpa, hpf⟩, ⟨_, _, _, _, _, _, p0, hK⟩, hin, hli, ⟨_, _, hbt⟩, hrg, ⟨_, _, htr⟩, ⟨_, hcr⟩, hps⟩, c_28, hag⟩)
  · skip
    refine x_thr hC hR hZx (xtw2_IllegalArgumentException _ _ xsr_87) rfl (Nat.le_of_ble_eq_true rfl) (by decide) (by decide) d_MessageCoder_addSymbol_15 d_MessageCoder_addSymbol_18 d_MessageCoder_addSymbol_19 d_MessageCoder_addSymbol_21 d_MessageCoder_addSymbol_24 (fun z9 hz9 => ?_)
    exact Or.inl (⟨rfl, ⟨b0, hs, hv, ⟨pf, hpa, hpf⟩, ⟨_, _, _, _, _, _, p0, hK⟩, hin, hli, ⟨_, _, hbt⟩, hrg, ⟨_, _, htr⟩, ⟨_, hcr⟩, hps⟩, c_12, hag⟩)

theorem d_MessageCoder_post_0 : decode prog_1_method_5_code 0 = .ok (.aload_n 0, 1) := by decide +kernel
theorem d_MessageCoder_post_1 : decode prog_1_method_5_code 1 = .ok (.getstatic 97, 3) := by decide +kernel
theorem d_MessageCoder_post_4 : decode prog_1_method_5_code 4 = .ok (.iload_n 1, 1) := by decide +kernel
theorem d_MessageCoder_post_5 : decode prog_1_method_5_code 5 = .ok (.iconst 0, 1) := by decide +kernel
theorem d_MessageCoder_post_6 : decode prog_1_method_5_code 6 = .ok (.invokevirtual 73, 3) := by decide +kernel
theorem d_MessageCoder_post_9 : decode prog_1_method_5_code 9 = .ok (.istore_n 2, 1) := by decide +kernel
theorem d_MessageCoder_post_10 : decode prog_1_method_5_code 10 = .ok (.iload_n 2, 1) := by decide +kernel
theorem d_MessageCoder_post_11 : decode prog_1_method_5_code 11 = .ok (.iconst (-1), 1) := by decide +kernel
theorem d_MessageCoder_post_12 : decode prog_1_method_5_code 12 = .ok (.if_icmp .ne 13, 3) := by decide +kernel
theorem d_MessageCoder_post_15 : decode prog_1_method_5_code 15 = .ok (.new 77, 3) := by decide +kernel
theorem d_MessageCoder_post_18 : decode prog_1_method_5_code 18 = .ok (.dup, 1) := by decide +kernel
theorem d_MessageCoder_post_19 : decode prog_1_method_5_code 19 = .ok (.ldc 100, 2) := by decide +kernel
theorem d_MessageCoder_post_21 : decode prog_1_method_5_code 21 = .ok (.invokespecial 81, 3) := by decide +kernel
theorem d_MessageCoder_post_24 : decode prog_1_method_5_code 24 = .ok (.athrow, 1) := by decide +kernel
theorem d_MessageCoder_post_25 : decode prog_1_method_5_code 25 = .ok (.iload_n 2, 1) := by decide +kernel
theorem d_MessageCoder_post_26 : decode prog_1_method_5_code 26 = .ok (.bipush (-2), 2) := by decide +kernel
theorem d_MessageCoder_post_28 : decode prog_1_method_5_code 28 = .ok (.if_icmp .ne 13, 3) := by decide +kernel
theorem d_MessageCoder_post_31 : decode prog_1_method_5_code 31 = .ok (.new 89, 3) := by decide +kernel
theorem d_MessageCoder_post_34 : decode prog_1_method_5_code 34 = .ok (.dup, 1) := by decide +kernel
theorem d_MessageCoder_post_35 : decode prog_1_method_5_code 35 = .ok (.ldc 102, 2) := by decide +kernel
theorem d_MessageCoder_post_37 : decode prog_1_method_5_code 37 = .ok (.invokespecial 93, 3) := by decide +kernel
theorem d_MessageCoder_post_40 : decode prog_1_method_5_code 40 = .ok (.athrow, 1) := by decide +kernel
theorem d_MessageCoder_post_41 : decode prog_1_method_5_code 41 = .ok (.iload_n 2, 1) := by decide +kernel
theorem d_MessageCoder_post_42 : decode prog_1_method_5_code 42 = .ok (.ireturn, 1) := by decide +kernel
set_option maxHeartbeats 4000000 in
set_option maxRecDepth 20000 in
theorem c_MessageCoder_post {P : xP} {F : xF} {z : Nat} {b : Nat} {cm : cmT} {M : mcS} {sm : Nat} {a : Int32} (hM : xMC F (cm) (b) (M)) (hCM : xCM P cm) (hSM : xSM P sm) (hZx : xZx P) (hpp0 : M.2.2.2.2.2.2.1 < 100000) (hun0 : M.2.2.2.2.2.2.2.1 < 100000) (hnx : M.1.2.2.1.2.1 < 999) : xMx P xy_MessageCoder_post [.ref b, .int a] F (z) 1 6 (fun r9 F9 z9 => r9 = some (.int ((aPo M.1 a).1)) ∧ z9 = z ∧ xMC F9 (cm) (b) ((chgM M (aPo M.1 a))) ∧ (¬ (aPo M.1 a).1 = -1) ∧ (¬ (aPo M.1 a).1 = -2) ∧ (∀ a9 : Nat, (a9 < b ∨ b + 566 ≤ a9) → F9 a9 = F a9)) (fun E9 F9 z9 => (E9 = "java/lang/IllegalArgumentException" ∧ xMC F9 (cm) (b) ((chgM M (aPo M.1 a))) ∧ ((aPo M.1 a).1 = -1) ∧ (∀ a9 : Nat, (a9 < b ∨ b + 566 ≤ a9) → F9 a9 = F a9)) ∨ (E9 = "java/lang/IllegalStateException" ∧ xMC F9 (cm) (b) ((chgM M (aPo M.1 a))) ∧ ((aPo M.1 a).1 = -2) ∧ (∀ a9 : Nat, (a9 < b ∨ b + 566 ≤ a9) → F9 a9 = F a9))) := by
  refine xMx_i .int rfl (Nat.le_of_ble_eq_true rfl) (L0 := [some (.ref b), some (.int a), none]) rfl rfl fun Θ hC hR hret => ?_
  have hag : ∀ a9 : Nat, (a9 < b ∨ b + 566 ≤ a9) → F a9 = F a9 := fun a9 _ => rfl
  obtain ⟨A, S, past, ⟨pn, psg⟩, ⟨lnn, lsg⟩, sv, pp, un, ep, fc⟩ := M
  obtain ⟨b0, hs, hv, ⟨pf, hpa, hpf⟩, ⟨cc, pa, f1, f2, hf, K, p0, hK⟩, hin, hli, ⟨nb, fb9, hbt⟩, hrg, ⟨tn, tsg, htr⟩, ⟨cr, hcr⟩, hps⟩ := id hM
  have b0 : F (b) = some (.inl (9, [.ref (b + 1), .ref (b + 50), .ref (b + 99), .ref (b + 100), .ref (b + 107), .ref (b + 109), .ref (b + 111), .ref (b + 122), .ref (b + 124), .int (nI (sv)), .int (nI (pp)), .int (nI (un)), .int ep, .int fc])) := b0
  have hs : xSt F (b + 1) (A) := hs
  have hv : xSt F (b + 50) (S) := hv
  have hpa : F (b + 99) = some (.inr (4, 9, pf)) := hpa
  have p0 : F (b + 100) = some (.inl (4, [.ref (b + 101), .ref (b + 103), .ref (b + 104), .ref (b + 105), .ref (b + 106), .int (nI (K.1)), .int (nI (cc)), .int (nI (pa)), .int (nI (f1)), .int (nI (f2)), .int (nI (hf))])) := p0
  have hK : xPk F (b + 100) (cm.2.1) (K) := hK
  have hin : xTx F (b + 101) (60) (pn) (psg) := hin
  have hli : xTx F (b + 107) (32) (lnn) (lsg) := hli
  have hbt : xBt F (b + 109) (nb) (fb9) := hbt
  have hrg : xRg F (b + 111) := hrg
  have htr : xTx F (b + 122) (16) (tn) (tsg) := htr
  have hcr : F (b + 124) = some (.inr (0, 17, fun b9 => .int (nI (cr b9)))) := hcr
  have hps : xPs F (b) (past) := hps
  have hpp : pp < 100000 := hpp0
  have hun : un < 100000 := hun0
  have hnx : A.2.2.1.2.1 < 999 := hnx
  refine x_aload_n hC d_MessageCoder_post_0 rfl rfl ?_
  refine x_gets hC (v := .ref (cm.2.1 3)) (hCM.2.2.2.2.2.2.2 3 (by decide)) (x_in (x_of (xtb_5 (List.mem_of_getElem? (i := 138) (by decide +kernel)))) (by decide +kernel)) d_MessageCoder_post_1 ?_
  refine x_iload_n hC d_MessageCoder_post_4 rfl rfl ?_
  refine x_iconst hC d_MessageCoder_post_5 (v := nI 0) (by decide) ?_
  refine x_callV hC kv_MessageCoder_73 (c_MessageCoder_change3 (b0 := b0) (hs := hs) (hbt := hbt) (hpa := hpa) (hps := hps) (hCM := hCM) (hSM := hSM) (hpf := hpf) (hpp := by omega) (hun := by omega) (hnx := hnx)) b0 rfl rfl (by decide) rfl rfl rfl (Nat.le_of_ble_eq_true rfl) (by decide) d_MessageCoder_post_6 (fun r9 F9 z9 hp9 => ?_)
  obtain ⟨nb1_6, fb1_6, rfl, h9c, j0, j1, j2, j3, hag9⟩ := hp9
  rw [h9c]
  clear h9c z9
  generalize F9 = F1 at *
  have hv : xSt F1 (b + 50) (S) := xSt_fr hv (fun a9 q1 q2 => hag9 a9 (by omega) (by omega) (by omega) (by omega))
  have hpa : F1 (b + 99) = some (.inr (4, 9, pf)) := (hag9 _ (by omega) (by omega) (by omega) (by omega)).trans hpa
  have p0 : F1 (b + 100) = some (.inl (4, [.ref (b + 101), .ref (b + 103), .ref (b + 104), .ref (b + 105), .ref (b + 106), .int (nI (K.1)), .int (nI (cc)), .int (nI (pa)), .int (nI (f1)), .int (nI (f2)), .int (nI (hf))])) := (hag9 _ (by omega) (by omega) (by omega) (by omega)).trans p0
  have hK : xPk F1 (b + 100) (cm.2.1) (K) := xPk_fr hK (fun a9 q1 q2 => hag9 a9 (by omega) (by omega) (by omega) (by omega))
  have hin : xTx F1 (b + 101) (60) (pn) (psg) := xTx_fr hin (fun a9 q1 q2 => hag9 a9 (by omega) (by omega) (by omega) (by omega))
  have hli : xTx F1 (b + 107) (32) (lnn) (lsg) := xTx_fr hli (fun a9 q1 q2 => hag9 a9 (by omega) (by omega) (by omega) (by omega))
  have hrg : xRg F1 (b + 111) := xRg_fr hrg (fun a9 q1 q2 => hag9 a9 (by omega) (by omega) (by omega) (by omega))
  have htr : xTx F1 (b + 122) (16) (tn) (tsg) := xTx_fr htr (fun a9 q1 q2 => hag9 a9 (by omega) (by omega) (by omega) (by omega))
  have hcr : F1 (b + 124) = some (.inr (0, 17, fun b9 => .int (nI (cr b9)))) := (hag9 _ (by omega) (by omega) (by omega) (by omega)).trans hcr
  have b0 : F1 (b) = some (.inl (9, [.ref (b + 1), .ref (b + 50), .ref (b + 99), .ref (b + 100), .ref (b + 107), .ref (b + 109), .ref (b + 111), .ref (b + 122), .ref (b + 124), .int (nI (sv)), .int (nI (chP (aPo A a).1 pp)), .int (nI (chU (aPo A a).1 un)), .int ep, .int fc])) := j0
  have hs : xSt F1 (b + 1) ((aPo A a).2) := j1
  have hbt : xBt F1 (b + 109) (nb1_6) (fb1_6) := j2
  have hps : xPs F1 (b) ((updA past (pp % 9) A)) := j3
  have hag : ∀ a9 : Nat, (a9 < b ∨ b + 566 ≤ a9) → F1 a9 = F a9 := fun a9 q0 => (hag9 a9 (by omega) (by omega) (by omega) (by omega)).trans (hag a9 q0)
  have hg_6 := hag9
  clear hag9
  refine x_istore_n hC d_MessageCoder_post_9 rfl (Nat.le_of_ble_eq_true rfl) (L1 := [some (.ref b), some (.int a), some (.int ((aPo A a).1))]) rfl ?_
  refine x_iload_n hC d_MessageCoder_post_10 rfl rfl ?_
  refine x_iconst hC d_MessageCoder_post_11 (v := -1) (by decide) ?_
  refine x_icmp_ne hC d_MessageCoder_post_12 (tgt := 25) (by decide) (fun c_12 => ?_) (fun c_12 => ?_)
  · skip
    refine x_iload_n hC d_MessageCoder_post_25 rfl rfl ?_
    refine x_bipush hC d_MessageCoder_post_26 (v := -2) (by decide) ?_
    refine x_icmp_ne hC d_MessageCoder_post_28 (tgt := 41) (by decide) (fun c_28 => ?_) (fun c_28 => ?_)
    · skip
      refine x_iload_n hC d_MessageCoder_post_41 rfl rfl ?_
      exact hret _ _ _ _ _ _ _ d_MessageCoder_post_42 (by decide) (by decide) rfl (⟨rfl, rfl, ⟨b0, hs, hv, ⟨pf, hpa, hpf⟩, ⟨_, _, _, _, _, _, p0, hK⟩, hin, hli, ⟨_, _, hbt⟩, hrg, ⟨_, _, htr⟩, ⟨_, hcr⟩, hps⟩, c_12, c_28, hag⟩)
    · skip
      refine x_thr hC hR hZx (xtw2_IllegalStateException _ _ xsr_102) rfl (Nat.le_of_ble_eq_true rfl) (by decide) (by decide) d_MessageCoder_post_31 d_MessageCoder_post_34 d_MessageCoder_post_35 d_MessageCoder_post_37 d_MessageCoder_post_40 (fun z9 hz9 => ?_)
      exact Or.inr (⟨rfl, ⟨b0, hs, hv, ⟨pf, hpa, hpf⟩, ⟨_, _, _, _, _, _, p0, hK⟩, hin, hli, ⟨_, _, hbt⟩, hrg, ⟨_, _, htr⟩, ⟨_, hcr⟩, hps⟩, c_28, hag⟩)
  · skip
    refine x_thr hC hR hZx (xtw2_IllegalArgumentException _ _ xsr_100) rfl (Nat.le_of_ble_eq_true rfl) (by decide) (by decide) d_MessageCoder_post_15 d_MessageCoder_post_18 d_MessageCoder_post_19 d_MessageCoder_post_21 d_MessageCoder_post_24 (fun z9 hz9 => ?_)
    exact Or.inl (⟨rfl, ⟨b0, hs, hv, ⟨pf, hpa, hpf⟩, ⟨_, _, _, _, _, _, p0, hK⟩, hin, hli, ⟨_, _, hbt⟩, hrg, ⟨_, _, htr⟩, ⟨_, hcr⟩, hps⟩, c_12, hag⟩)

theorem d_MessageCoder_drop_0 : decode prog_1_method_6_code 0 = .ok (.aload_n 0, 1) := by decide +kernel
theorem d_MessageCoder_drop_1 : decode prog_1_method_6_code 1 = .ok (.getstatic 104, 3) := by decide +kernel
theorem d_MessageCoder_drop_4 : decode prog_1_method_6_code 4 = .ok (.iload_n 1, 1) := by decide +kernel
theorem d_MessageCoder_drop_5 : decode prog_1_method_6_code 5 = .ok (.iconst 0, 1) := by decide +kernel
theorem d_MessageCoder_drop_6 : decode prog_1_method_6_code 6 = .ok (.invokevirtual 73, 3) := by decide +kernel
theorem d_MessageCoder_drop_9 : decode prog_1_method_6_code 9 = .ok (.istore_n 2, 1) := by decide +kernel
theorem d_MessageCoder_drop_10 : decode prog_1_method_6_code 10 = .ok (.iload_n 2, 1) := by decide +kernel
theorem d_MessageCoder_drop_11 : decode prog_1_method_6_code 11 = .ok (.bipush (-3), 2) := by decide +kernel
theorem d_MessageCoder_drop_13 : decode prog_1_method_6_code 13 = .ok (.if_icmp .ne 13, 3) := by decide +kernel
theorem d_MessageCoder_drop_16 : decode prog_1_method_6_code 16 = .ok (.new 107, 3) := by decide +kernel
theorem d_MessageCoder_drop_19 : decode prog_1_method_6_code 19 = .ok (.dup, 1) := by decide +kernel
theorem d_MessageCoder_drop_20 : decode prog_1_method_6_code 20 = .ok (.ldc 109, 2) := by decide +kernel
theorem d_MessageCoder_drop_22 : decode prog_1_method_6_code 22 = .ok (.invokespecial 111, 3) := by decide +kernel
theorem d_MessageCoder_drop_25 : decode prog_1_method_6_code 25 = .ok (.athrow, 1) := by decide +kernel
theorem d_MessageCoder_drop_26 : decode prog_1_method_6_code 26 = .ok (.iload_n 2, 1) := by decide +kernel
theorem d_MessageCoder_drop_27 : decode prog_1_method_6_code 27 = .ok (.ireturn, 1) := by decide +kernel
set_option maxHeartbeats 4000000 in
set_option maxRecDepth 20000 in
theorem c_MessageCoder_drop {P : xP} {F : xF} {z : Nat} {b : Nat} {cm : cmT} {M : mcS} {sm : Nat} {a : Int32} (hM : xMC F (cm) (b) (M)) (hCM : xCM P cm) (hSM : xSM P sm) (hZx : xZx P) (hpp0 : M.2.2.2.2.2.2.1 < 100000) (hun0 : M.2.2.2.2.2.2.2.1 < 100000) : xMx P xy_MessageCoder_drop [.ref b, .int a] F (z) 1 6 (fun r9 F9 z9 => r9 = some (.int ((aDi M.1 a).1)) ∧ z9 = z ∧ xMC F9 (cm) (b) ((chgM M (aDi M.1 a))) ∧ (¬ (aDi M.1 a).1 = -3) ∧ (∀ a9 : Nat, (a9 < b ∨ b + 566 ≤ a9) → F9 a9 = F a9)) (fun E9 F9 z9 => (E9 = "java/util/NoSuchElementException" ∧ xMC F9 (cm) (b) ((chgM M (aDi M.1 a))) ∧ ((aDi M.1 a).1 = -3) ∧ (∀ a9 : Nat, (a9 < b ∨ b + 566 ≤ a9) → F9 a9 = F a9))) := by
  refine xMx_i .int rfl (Nat.le_of_ble_eq_true rfl) (L0 := [some (.ref b), some (.int a), none]) rfl rfl fun Θ hC hR hret => ?_
  have hag : ∀ a9 : Nat, (a9 < b ∨ b + 566 ≤ a9) → F a9 = F a9 := fun a9 _ => rfl
  obtain ⟨A, S, past, ⟨pn, psg⟩, ⟨lnn, lsg⟩, sv, pp, un, ep, fc⟩ := M
  obtain ⟨b0, hs, hv, ⟨pf, hpa, hpf⟩, ⟨cc, pa, f1, f2, hf, K, p0, hK⟩, hin, hli, ⟨nb, fb9, hbt⟩, hrg, ⟨tn, tsg, htr⟩, ⟨cr, hcr⟩, hps⟩ := id hM
  have b0 : F (b) = some (.inl (9, [.ref (b + 1), .ref (b + 50), .ref (b + 99), .ref (b + 100), .ref (b + 107), .ref (b + 109), .ref (b + 111), .ref (b + 122), .ref (b + 124), .int (nI (sv)), .int (nI (pp)), .int (nI (un)), .int ep, .int fc])) := b0
  have hs : xSt F (b + 1) (A) := hs
  have hv : xSt F (b + 50) (S) := hv
  have hpa : F (b + 99) = some (.inr (4, 9, pf)) := hpa
  have p0 : F (b + 100) = some (.inl (4, [.ref (b + 101), .ref (b + 103), .ref (b + 104), .ref (b + 105), .ref (b + 106), .int (nI (K.1)), .int (nI (cc)), .int (nI (pa)), .int (nI (f1)), .int (nI (f2)), .int (nI (hf))])) := p0
  have hK : xPk F (b + 100) (cm.2.1) (K) := hK
  have hin : xTx F (b + 101) (60) (pn) (psg) := hin
  have hli : xTx F (b + 107) (32) (lnn) (lsg) := hli
  have hbt : xBt F (b + 109) (nb) (fb9) := hbt
  have hrg : xRg F (b + 111) := hrg
  have htr : xTx F (b + 122) (16) (tn) (tsg) := htr
  have hcr : F (b + 124) = some (.inr (0, 17, fun b9 => .int (nI (cr b9)))) := hcr
  have hps : xPs F (b) (past) := hps
  have hpp : pp < 100000 := hpp0
  have hun : un < 100000 := hun0
  refine x_aload_n hC d_MessageCoder_drop_0 rfl rfl ?_
  refine x_gets hC (v := .ref (cm.2.1 4)) (hCM.2.2.2.2.2.2.2 4 (by decide)) (x_in (x_of (xtb_5 (List.mem_of_getElem? (i := 152) (by decide +kernel)))) (by decide +kernel)) d_MessageCoder_drop_1 ?_
  refine x_iload_n hC d_MessageCoder_drop_4 rfl rfl ?_
  refine x_iconst hC d_MessageCoder_drop_5 (v := nI 0) (by decide) ?_
  refine x_callV hC kv_MessageCoder_73 (c_MessageCoder_change4 (b0 := b0) (hs := hs) (hbt := hbt) (hpa := hpa) (hps := hps) (hCM := hCM) (hSM := hSM) (hpf := hpf) (hpp := by omega) (hun := by omega)) b0 rfl rfl (by decide) rfl rfl rfl (Nat.le_of_ble_eq_true rfl) (by decide) d_MessageCoder_drop_6 (fun r9 F9 z9 hp9 => ?_)
  obtain ⟨nb1_6, fb1_6, rfl, h9c, j0, j1, j2, j3, hag9⟩ := hp9
  rw [h9c]
  clear h9c z9
  generalize F9 = F1 at *
  have hv : xSt F1 (b + 50) (S) := xSt_fr hv (fun a9 q1 q2 => hag9 a9 (by omega) (by omega) (by omega) (by omega))
  have hpa : F1 (b + 99) = some (.inr (4, 9, pf)) := (hag9 _ (by omega) (by omega) (by omega) (by omega)).trans hpa
  have p0 : F1 (b + 100) = some (.inl (4, [.ref (b + 101), .ref (b + 103), .ref (b + 104), .ref (b + 105), .ref (b + 106), .int (nI (K.1)), .int (nI (cc)), .int (nI (pa)), .int (nI (f1)), .int (nI (f2)), .int (nI (hf))])) := (hag9 _ (by omega) (by omega) (by omega) (by omega)).trans p0
  have hK : xPk F1 (b + 100) (cm.2.1) (K) := xPk_fr hK (fun a9 q1 q2 => hag9 a9 (by omega) (by omega) (by omega) (by omega))
  have hin : xTx F1 (b + 101) (60) (pn) (psg) := xTx_fr hin (fun a9 q1 q2 => hag9 a9 (by omega) (by omega) (by omega) (by omega))
  have hli : xTx F1 (b + 107) (32) (lnn) (lsg) := xTx_fr hli (fun a9 q1 q2 => hag9 a9 (by omega) (by omega) (by omega) (by omega))
  have hrg : xRg F1 (b + 111) := xRg_fr hrg (fun a9 q1 q2 => hag9 a9 (by omega) (by omega) (by omega) (by omega))
  have htr : xTx F1 (b + 122) (16) (tn) (tsg) := xTx_fr htr (fun a9 q1 q2 => hag9 a9 (by omega) (by omega) (by omega) (by omega))
  have hcr : F1 (b + 124) = some (.inr (0, 17, fun b9 => .int (nI (cr b9)))) := (hag9 _ (by omega) (by omega) (by omega) (by omega)).trans hcr
  have b0 : F1 (b) = some (.inl (9, [.ref (b + 1), .ref (b + 50), .ref (b + 99), .ref (b + 100), .ref (b + 107), .ref (b + 109), .ref (b + 111), .ref (b + 122), .ref (b + 124), .int (nI (sv)), .int (nI (chP (aDi A a).1 pp)), .int (nI (chU (aDi A a).1 un)), .int ep, .int fc])) := j0
  have hs : xSt F1 (b + 1) ((aDi A a).2) := j1
  have hbt : xBt F1 (b + 109) (nb1_6) (fb1_6) := j2
  have hps : xPs F1 (b) ((updA past (pp % 9) A)) := j3
  have hag : ∀ a9 : Nat, (a9 < b ∨ b + 566 ≤ a9) → F1 a9 = F a9 := fun a9 q0 => (hag9 a9 (by omega) (by omega) (by omega) (by omega)).trans (hag a9 q0)
  have hg_6 := hag9
  clear hag9
  refine x_istore_n hC d_MessageCoder_drop_9 rfl (Nat.le_of_ble_eq_true rfl) (L1 := [some (.ref b), some (.int a), some (.int ((aDi A a).1))]) rfl ?_
  refine x_iload_n hC d_MessageCoder_drop_10 rfl rfl ?_
  refine x_bipush hC d_MessageCoder_drop_11 (v := -3) (by decide) ?_
  refine x_icmp_ne hC d_MessageCoder_drop_13 (tgt := 26) (by decide) (fun c_13 => ?_) (fun c_13 => ?_)
  · skip
    refine x_iload_n hC d_MessageCoder_drop_26 rfl rfl ?_
    exact hret _ _ _ _ _ _ _ d_MessageCoder_drop_27 (by decide) (by decide) rfl (⟨rfl, rfl, ⟨b0, hs, hv, ⟨pf, hpa, hpf⟩, ⟨_, _, _, _, _, _, p0, hK⟩, hin, hli, ⟨_, _, hbt⟩, hrg, ⟨_, _, htr⟩, ⟨_, hcr⟩, hps⟩, c_13, hag⟩)
  · skip
    refine x_thrN hC hR hZx (xtw2_NoSuchElementException _ _ xsr_109) rfl (Nat.le_of_ble_eq_true rfl) (by decide) (by decide) d_MessageCoder_drop_16 d_MessageCoder_drop_19 d_MessageCoder_drop_20 d_MessageCoder_drop_22 d_MessageCoder_drop_25 (fun z9 hz9 => ?_)
    exact ⟨rfl, ⟨b0, hs, hv, ⟨pf, hpa, hpf⟩, ⟨_, _, _, _, _, _, p0, hK⟩, hin, hli, ⟨_, _, hbt⟩, hrg, ⟨_, _, htr⟩, ⟨_, hcr⟩, hps⟩, c_13, hag⟩

theorem d_MessageCoder_setPriority_0 : decode prog_1_method_7_code 0 = .ok (.aload_n 0, 1) := by decide +kernel
theorem d_MessageCoder_setPriority_1 : decode prog_1_method_7_code 1 = .ok (.getstatic 112, 3) := by decide +kernel
theorem d_MessageCoder_setPriority_4 : decode prog_1_method_7_code 4 = .ok (.iload_n 1, 1) := by decide +kernel
theorem d_MessageCoder_setPriority_5 : decode prog_1_method_7_code 5 = .ok (.iload_n 2, 1) := by decide +kernel
theorem d_MessageCoder_setPriority_6 : decode prog_1_method_7_code 6 = .ok (.invokevirtual 73, 3) := by decide +kernel
theorem d_MessageCoder_setPriority_9 : decode prog_1_method_7_code 9 = .ok (.istore_n 3, 1) := by decide +kernel
theorem d_MessageCoder_setPriority_10 : decode prog_1_method_7_code 10 = .ok (.iload_n 3, 1) := by decide +kernel
theorem d_MessageCoder_setPriority_11 : decode prog_1_method_7_code 11 = .ok (.bipush (-3), 2) := by decide +kernel
theorem d_MessageCoder_setPriority_13 : decode prog_1_method_7_code 13 = .ok (.if_icmp .ne 13, 3) := by decide +kernel
theorem d_MessageCoder_setPriority_16 : decode prog_1_method_7_code 16 = .ok (.new 107, 3) := by decide +kernel
theorem d_MessageCoder_setPriority_19 : decode prog_1_method_7_code 19 = .ok (.dup, 1) := by decide +kernel
theorem d_MessageCoder_setPriority_20 : decode prog_1_method_7_code 20 = .ok (.ldc 109, 2) := by decide +kernel
theorem d_MessageCoder_setPriority_22 : decode prog_1_method_7_code 22 = .ok (.invokespecial 111, 3) := by decide +kernel
theorem d_MessageCoder_setPriority_25 : decode prog_1_method_7_code 25 = .ok (.athrow, 1) := by decide +kernel
theorem d_MessageCoder_setPriority_26 : decode prog_1_method_7_code 26 = .ok (.iload_n 3, 1) := by decide +kernel
theorem d_MessageCoder_setPriority_27 : decode prog_1_method_7_code 27 = .ok (.iconst (-1), 1) := by decide +kernel
theorem d_MessageCoder_setPriority_28 : decode prog_1_method_7_code 28 = .ok (.if_icmp .ne 13, 3) := by decide +kernel
theorem d_MessageCoder_setPriority_31 : decode prog_1_method_7_code 31 = .ok (.new 77, 3) := by decide +kernel
theorem d_MessageCoder_setPriority_34 : decode prog_1_method_7_code 34 = .ok (.dup, 1) := by decide +kernel
theorem d_MessageCoder_setPriority_35 : decode prog_1_method_7_code 35 = .ok (.ldc 100, 2) := by decide +kernel
theorem d_MessageCoder_setPriority_37 : decode prog_1_method_7_code 37 = .ok (.invokespecial 81, 3) := by decide +kernel
theorem d_MessageCoder_setPriority_40 : decode prog_1_method_7_code 40 = .ok (.athrow, 1) := by decide +kernel
theorem d_MessageCoder_setPriority_41 : decode prog_1_method_7_code 41 = .ok (.iload_n 3, 1) := by decide +kernel
theorem d_MessageCoder_setPriority_42 : decode prog_1_method_7_code 42 = .ok (.ireturn, 1) := by decide +kernel
set_option maxHeartbeats 4000000 in
set_option maxRecDepth 20000 in
theorem c_MessageCoder_setPriority {P : xP} {F : xF} {z : Nat} {b : Nat} {cm : cmT} {M : mcS} {sm : Nat} {a : Int32} {x : Int32} (hM : xMC F (cm) (b) (M)) (hCM : xCM P cm) (hSM : xSM P sm) (hZx : xZx P) (hpp0 : M.2.2.2.2.2.2.1 < 100000) (hun0 : M.2.2.2.2.2.2.2.1 < 100000) : xMx P xy_MessageCoder_setPriority [.ref b, .int a, .int x] F (z) 1 6 (fun r9 F9 z9 => r9 = some (.int ((aHu M.1 a x).1)) ∧ z9 = z ∧ xMC F9 (cm) (b) ((chgM M (aHu M.1 a x))) ∧ (¬ (aHu M.1 a x).1 = -3) ∧ (¬ (aHu M.1 a x).1 = -1) ∧ (∀ a9 : Nat, (a9 < b ∨ b + 566 ≤ a9) → F9 a9 = F a9)) (fun E9 F9 z9 => (E9 = "java/util/NoSuchElementException" ∧ xMC F9 (cm) (b) ((chgM M (aHu M.1 a x))) ∧ ((aHu M.1 a x).1 = -3) ∧ (∀ a9 : Nat, (a9 < b ∨ b + 566 ≤ a9) → F9 a9 = F a9)) ∨ (E9 = "java/lang/IllegalArgumentException" ∧ xMC F9 (cm) (b) ((chgM M (aHu M.1 a x))) ∧ ((aHu M.1 a x).1 = -1) ∧ (∀ a9 : Nat, (a9 < b ∨ b + 566 ≤ a9) → F9 a9 = F a9))) := by
  refine xMx_i .int rfl (Nat.le_of_ble_eq_true rfl) (L0 := [some (.ref b), some (.int a), some (.int x), none]) rfl rfl fun Θ hC hR hret => ?_
  have hag : ∀ a9 : Nat, (a9 < b ∨ b + 566 ≤ a9) → F a9 = F a9 := fun a9 _ => rfl
  obtain ⟨A, S, past, ⟨pn, psg⟩, ⟨lnn, lsg⟩, sv, pp, un, ep, fc⟩ := M
  obtain ⟨b0, hs, hv, ⟨pf, hpa, hpf⟩, ⟨cc, pa, f1, f2, hf, K, p0, hK⟩, hin, hli, ⟨nb, fb9, hbt⟩, hrg, ⟨tn, tsg, htr⟩, ⟨cr, hcr⟩, hps⟩ := id hM
  have b0 : F (b) = some (.inl (9, [.ref (b + 1), .ref (b + 50), .ref (b + 99), .ref (b + 100), .ref (b + 107), .ref (b + 109), .ref (b + 111), .ref (b + 122), .ref (b + 124), .int (nI (sv)), .int (nI (pp)), .int (nI (un)), .int ep, .int fc])) := b0
  have hs : xSt F (b + 1) (A) := hs
  have hv : xSt F (b + 50) (S) := hv
  have hpa : F (b + 99) = some (.inr (4, 9, pf)) := hpa
  have p0 : F (b + 100) = some (.inl (4, [.ref (b + 101), .ref (b + 103), .ref (b + 104), .ref (b + 105), .ref (b + 106), .int (nI (K.1)), .int (nI (cc)), .int (nI (pa)), .int (nI (f1)), .int (nI (f2)), .int (nI (hf))])) := p0
  have hK : xPk F (b + 100) (cm.2.1) (K) := hK
  have hin : xTx F (b + 101) (60) (pn) (psg) := hin
  have hli : xTx F (b + 107) (32) (lnn) (lsg) := hli
  have hbt : xBt F (b + 109) (nb) (fb9) := hbt
  have hrg : xRg F (b + 111) := hrg
  have htr : xTx F (b + 122) (16) (tn) (tsg) := htr
  have hcr : F (b + 124) = some (.inr (0, 17, fun b9 => .int (nI (cr b9)))) := hcr
  have hps : xPs F (b) (past) := hps
  have hpp : pp < 100000 := hpp0
  have hun : un < 100000 := hun0
  refine x_aload_n hC d_MessageCoder_setPriority_0 rfl rfl ?_
  refine x_gets hC (v := .ref (cm.2.1 5)) (hCM.2.2.2.2.2.2.2 5 (by decide)) (x_in (x_of (xtb_5 (List.mem_of_getElem? (i := 161) (by decide +kernel)))) (by decide +kernel)) d_MessageCoder_setPriority_1 ?_
  refine x_iload_n hC d_MessageCoder_setPriority_4 rfl rfl ?_
  refine x_iload_n hC d_MessageCoder_setPriority_5 rfl rfl ?_
  refine x_callV hC kv_MessageCoder_73 (c_MessageCoder_change5 (b0 := b0) (hs := hs) (hbt := hbt) (hpa := hpa) (hps := hps) (hCM := hCM) (hSM := hSM) (hpf := hpf) (hpp := by omega) (hun := by omega)) b0 rfl rfl (by decide) rfl rfl rfl (Nat.le_of_ble_eq_true rfl) (by decide) d_MessageCoder_setPriority_6 (fun r9 F9 z9 hp9 => ?_)
  obtain ⟨nb1_6, fb1_6, rfl, h9c, j0, j1, j2, j3, hag9⟩ := hp9
  rw [h9c]
  clear h9c z9
  generalize F9 = F1 at *
  have hv : xSt F1 (b + 50) (S) := xSt_fr hv (fun a9 q1 q2 => hag9 a9 (by omega) (by omega) (by omega) (by omega))
  have hpa : F1 (b + 99) = some (.inr (4, 9, pf)) := (hag9 _ (by omega) (by omega) (by omega) (by omega)).trans hpa
  have p0 : F1 (b + 100) = some (.inl (4, [.ref (b + 101), .ref (b + 103), .ref (b + 104), .ref (b + 105), .ref (b + 106), .int (nI (K.1)), .int (nI (cc)), .int (nI (pa)), .int (nI (f1)), .int (nI (f2)), .int (nI (hf))])) := (hag9 _ (by omega) (by omega) (by omega) (by omega)).trans p0
  have hK : xPk F1 (b + 100) (cm.2.1) (K) := xPk_fr hK (fun a9 q1 q2 => hag9 a9 (by omega) (by omega) (by omega) (by omega))
  have hin : xTx F1 (b + 101) (60) (pn) (psg) := xTx_fr hin (fun a9 q1 q2 => hag9 a9 (by omega) (by omega) (by omega) (by omega))
  have hli : xTx F1 (b + 107) (32) (lnn) (lsg) := xTx_fr hli (fun a9 q1 q2 => hag9 a9 (by omega) (by omega) (by omega) (by omega))
  have hrg : xRg F1 (b + 111) := xRg_fr hrg (fun a9 q1 q2 => hag9 a9 (by omega) (by omega) (by omega) (by omega))
  have htr : xTx F1 (b + 122) (16) (tn) (tsg) := xTx_fr htr (fun a9 q1 q2 => hag9 a9 (by omega) (by omega) (by omega) (by omega))
  have hcr : F1 (b + 124) = some (.inr (0, 17, fun b9 => .int (nI (cr b9)))) := (hag9 _ (by omega) (by omega) (by omega) (by omega)).trans hcr
  have b0 : F1 (b) = some (.inl (9, [.ref (b + 1), .ref (b + 50), .ref (b + 99), .ref (b + 100), .ref (b + 107), .ref (b + 109), .ref (b + 111), .ref (b + 122), .ref (b + 124), .int (nI (sv)), .int (nI (chP (aHu A a x).1 pp)), .int (nI (chU (aHu A a x).1 un)), .int ep, .int fc])) := j0
  have hs : xSt F1 (b + 1) ((aHu A a x).2) := j1
  have hbt : xBt F1 (b + 109) (nb1_6) (fb1_6) := j2
  have hps : xPs F1 (b) ((updA past (pp % 9) A)) := j3
  have hag : ∀ a9 : Nat, (a9 < b ∨ b + 566 ≤ a9) → F1 a9 = F a9 := fun a9 q0 => (hag9 a9 (by omega) (by omega) (by omega) (by omega)).trans (hag a9 q0)
  have hg_6 := hag9
  clear hag9
  refine x_istore_n hC d_MessageCoder_setPriority_9 rfl (Nat.le_of_ble_eq_true rfl) (L1 := [some (.ref b), some (.int a), some (.int x), some (.int ((aHu A a x).1))]) rfl ?_
  refine x_iload_n hC d_MessageCoder_setPriority_10 rfl rfl ?_
  refine x_bipush hC d_MessageCoder_setPriority_11 (v := -3) (by decide) ?_
  refine x_icmp_ne hC d_MessageCoder_setPriority_13 (tgt := 26) (by decide) (fun c_13 => ?_) (fun c_13 => ?_)
  · skip
    refine x_iload_n hC d_MessageCoder_setPriority_26 rfl rfl ?_
    refine x_iconst hC d_MessageCoder_setPriority_27 (v := -1) (by decide) ?_
    refine x_icmp_ne hC d_MessageCoder_setPriority_28 (tgt := 41) (by decide) (fun c_28 => ?_) (fun c_28 => ?_)
    · skip
      refine x_iload_n hC d_MessageCoder_setPriority_41 rfl rfl ?_
      exact hret _ _ _ _ _ _ _ d_MessageCoder_setPriority_42 (by decide) (by decide) rfl (⟨rfl, rfl, ⟨b0, hs, hv, ⟨pf, hpa, hpf⟩, ⟨_, _, _, _, _, _, p0, hK⟩, hin, hli, ⟨_, _, hbt⟩, hrg, ⟨_, _, htr⟩, ⟨_, hcr⟩, hps⟩, c_13, c_28, hag⟩)
    · skip
      refine x_thr hC hR hZx (xtw2_IllegalArgumentException _ _ xsr_100) rfl (Nat.le_of_ble_eq_true rfl) (by decide) (by decide) d_MessageCoder_setPriority_31 d_MessageCoder_setPriority_34 d_MessageCoder_setPriority_35 d_MessageCoder_setPriority_37 d_MessageCoder_setPriority_40 (fun z9 hz9 => ?_)
      exact Or.inr (⟨rfl, ⟨b0, hs, hv, ⟨pf, hpa, hpf⟩, ⟨_, _, _, _, _, _, p0, hK⟩, hin, hli, ⟨_, _, hbt⟩, hrg, ⟨_, _, htr⟩, ⟨_, hcr⟩, hps⟩, c_28, hag⟩)
  · skip
    refine x_thrN hC hR hZx (xtw2_NoSuchElementException _ _ xsr_109) rfl (Nat.le_of_ble_eq_true rfl) (by decide) (by decide) d_MessageCoder_setPriority_16 d_MessageCoder_setPriority_19 d_MessageCoder_setPriority_20 d_MessageCoder_setPriority_22 d_MessageCoder_setPriority_25 (fun z9 hz9 => ?_)
    exact Or.inl (⟨rfl, ⟨b0, hs, hv, ⟨pf, hpa, hpf⟩, ⟨_, _, _, _, _, _, p0, hK⟩, hin, hli, ⟨_, _, hbt⟩, hrg, ⟨_, _, htr⟩, ⟨_, hcr⟩, hps⟩, c_13, hag⟩)

theorem d_MessageCoder_learn_0 : decode prog_1_method_8_code 0 = .ok (.aload_n 0, 1) := by decide +kernel
theorem d_MessageCoder_learn_1 : decode prog_1_method_8_code 1 = .ok (.getstatic 115, 3) := by decide +kernel
theorem d_MessageCoder_learn_4 : decode prog_1_method_8_code 4 = .ok (.iload_n 1, 1) := by decide +kernel
theorem d_MessageCoder_learn_5 : decode prog_1_method_8_code 5 = .ok (.iconst 0, 1) := by decide +kernel
theorem d_MessageCoder_learn_6 : decode prog_1_method_8_code 6 = .ok (.invokevirtual 73, 3) := by decide +kernel
theorem d_MessageCoder_learn_9 : decode prog_1_method_8_code 9 = .ok (.istore_n 2, 1) := by decide +kernel
theorem d_MessageCoder_learn_10 : decode prog_1_method_8_code 10 = .ok (.iload_n 2, 1) := by decide +kernel
theorem d_MessageCoder_learn_11 : decode prog_1_method_8_code 11 = .ok (.bipush (-3), 2) := by decide +kernel
theorem d_MessageCoder_learn_13 : decode prog_1_method_8_code 13 = .ok (.if_icmp .ne 13, 3) := by decide +kernel
theorem d_MessageCoder_learn_16 : decode prog_1_method_8_code 16 = .ok (.new 107, 3) := by decide +kernel
theorem d_MessageCoder_learn_19 : decode prog_1_method_8_code 19 = .ok (.dup, 1) := by decide +kernel
theorem d_MessageCoder_learn_20 : decode prog_1_method_8_code 20 = .ok (.ldc 109, 2) := by decide +kernel
theorem d_MessageCoder_learn_22 : decode prog_1_method_8_code 22 = .ok (.invokespecial 111, 3) := by decide +kernel
theorem d_MessageCoder_learn_25 : decode prog_1_method_8_code 25 = .ok (.athrow, 1) := by decide +kernel
theorem d_MessageCoder_learn_26 : decode prog_1_method_8_code 26 = .ok (.iload_n 2, 1) := by decide +kernel
theorem d_MessageCoder_learn_27 : decode prog_1_method_8_code 27 = .ok (.ireturn, 1) := by decide +kernel
set_option maxHeartbeats 4000000 in
set_option maxRecDepth 20000 in
theorem c_MessageCoder_learn {P : xP} {F : xF} {z : Nat} {b : Nat} {cm : cmT} {M : mcS} {sm : Nat} {a : Int32} (hM : xMC F (cm) (b) (M)) (hCM : xCM P cm) (hSM : xSM P sm) (hZx : xZx P) (hpp0 : M.2.2.2.2.2.2.1 < 100000) (hun0 : M.2.2.2.2.2.2.2.1 < 100000) : xMx P xy_MessageCoder_learn [.ref b, .int a] F (z) 1 6 (fun r9 F9 z9 => r9 = some (.int ((aLe M.1 a).1)) ∧ z9 = z ∧ xMC F9 (cm) (b) ((chgM M (aLe M.1 a))) ∧ (¬ (aLe M.1 a).1 = -3) ∧ (∀ a9 : Nat, (a9 < b ∨ b + 566 ≤ a9) → F9 a9 = F a9)) (fun E9 F9 z9 => (E9 = "java/util/NoSuchElementException" ∧ xMC F9 (cm) (b) ((chgM M (aLe M.1 a))) ∧ ((aLe M.1 a).1 = -3) ∧ (∀ a9 : Nat, (a9 < b ∨ b + 566 ≤ a9) → F9 a9 = F a9))) := by
  refine xMx_i .int rfl (Nat.le_of_ble_eq_true rfl) (L0 := [some (.ref b), some (.int a), none]) rfl rfl fun Θ hC hR hret => ?_
  have hag : ∀ a9 : Nat, (a9 < b ∨ b + 566 ≤ a9) → F a9 = F a9 := fun a9 _ => rfl
  obtain ⟨A, S, past, ⟨pn, psg⟩, ⟨lnn, lsg⟩, sv, pp, un, ep, fc⟩ := M
  obtain ⟨b0, hs, hv, ⟨pf, hpa, hpf⟩, ⟨cc, pa, f1, f2, hf, K, p0, hK⟩, hin, hli, ⟨nb, fb9, hbt⟩, hrg, ⟨tn, tsg, htr⟩, ⟨cr, hcr⟩, hps⟩ := id hM
  have b0 : F (b) = some (.inl (9, [.ref (b + 1), .ref (b + 50), .ref (b + 99), .ref (b + 100), .ref (b + 107), .ref (b + 109), .ref (b + 111), .ref (b + 122), .ref (b + 124), .int (nI (sv)), .int (nI (pp)), .int (nI (un)), .int ep, .int fc])) := b0
  have hs : xSt F (b + 1) (A) := hs
  have hv : xSt F (b + 50) (S) := hv
  have hpa : F (b + 99) = some (.inr (4, 9, pf)) := hpa
  have p0 : F (b + 100) = some (.inl (4, [.ref (b + 101), .ref (b + 103), .ref (b + 104), .ref (b + 105), .ref (b + 106), .int (nI (K.1)), .int (nI (cc)), .int (nI (pa)), .int (nI (f1)), .int (nI (f2)), .int (nI (hf))])) := p0
  have hK : xPk F (b + 100) (cm.2.1) (K) := hK
  have hin : xTx F (b + 101) (60) (pn) (psg) := hin
  have hli : xTx F (b + 107) (32) (lnn) (lsg) := hli
  have hbt : xBt F (b + 109) (nb) (fb9) := hbt
  have hrg : xRg F (b + 111) := hrg
  have htr : xTx F (b + 122) (16) (tn) (tsg) := htr
  have hcr : F (b + 124) = some (.inr (0, 17, fun b9 => .int (nI (cr b9)))) := hcr
  have hps : xPs F (b) (past) := hps
  have hpp : pp < 100000 := hpp0
  have hun : un < 100000 := hun0
  refine x_aload_n hC d_MessageCoder_learn_0 rfl rfl ?_
  refine x_gets hC (v := .ref (cm.2.1 6)) (hCM.2.2.2.2.2.2.2 6 (by decide)) (x_in (x_of (xtb_5 (List.mem_of_getElem? (i := 170) (by decide +kernel)))) (by decide +kernel)) d_MessageCoder_learn_1 ?_
  refine x_iload_n hC d_MessageCoder_learn_4 rfl rfl ?_
  refine x_iconst hC d_MessageCoder_learn_5 (v := nI 0) (by decide) ?_
  refine x_callV hC kv_MessageCoder_73 (c_MessageCoder_change6 (b0 := b0) (hs := hs) (hbt := hbt) (hpa := hpa) (hps := hps) (hCM := hCM) (hSM := hSM) (hpf := hpf) (hpp := by omega) (hun := by omega)) b0 rfl rfl (by decide) rfl rfl rfl (Nat.le_of_ble_eq_true rfl) (by decide) d_MessageCoder_learn_6 (fun r9 F9 z9 hp9 => ?_)
  obtain ⟨nb1_6, fb1_6, rfl, h9c, j0, j1, j2, j3, hag9⟩ := hp9
  rw [h9c]
  clear h9c z9
  generalize F9 = F1 at *
  have hv : xSt F1 (b + 50) (S) := xSt_fr hv (fun a9 q1 q2 => hag9 a9 (by omega) (by omega) (by omega) (by omega))
  have hpa : F1 (b + 99) = some (.inr (4, 9, pf)) := (hag9 _ (by omega) (by omega) (by omega) (by omega)).trans hpa
  have p0 : F1 (b + 100) = some (.inl (4, [.ref (b + 101), .ref (b + 103), .ref (b + 104), .ref (b + 105), .ref (b + 106), .int (nI (K.1)), .int (nI (cc)), .int (nI (pa)), .int (nI (f1)), .int (nI (f2)), .int (nI (hf))])) := (hag9 _ (by omega) (by omega) (by omega) (by omega)).trans p0
  have hK : xPk F1 (b + 100) (cm.2.1) (K) := xPk_fr hK (fun a9 q1 q2 => hag9 a9 (by omega) (by omega) (by omega) (by omega))
  have hin : xTx F1 (b + 101) (60) (pn) (psg) := xTx_fr hin (fun a9 q1 q2 => hag9 a9 (by omega) (by omega) (by omega) (by omega))
  have hli : xTx F1 (b + 107) (32) (lnn) (lsg) := xTx_fr hli (fun a9 q1 q2 => hag9 a9 (by omega) (by omega) (by omega) (by omega))
  have hrg : xRg F1 (b + 111) := xRg_fr hrg (fun a9 q1 q2 => hag9 a9 (by omega) (by omega) (by omega) (by omega))
  have htr : xTx F1 (b + 122) (16) (tn) (tsg) := xTx_fr htr (fun a9 q1 q2 => hag9 a9 (by omega) (by omega) (by omega) (by omega))
  have hcr : F1 (b + 124) = some (.inr (0, 17, fun b9 => .int (nI (cr b9)))) := (hag9 _ (by omega) (by omega) (by omega) (by omega)).trans hcr
  have b0 : F1 (b) = some (.inl (9, [.ref (b + 1), .ref (b + 50), .ref (b + 99), .ref (b + 100), .ref (b + 107), .ref (b + 109), .ref (b + 111), .ref (b + 122), .ref (b + 124), .int (nI (sv)), .int (nI (chP (aLe A a).1 pp)), .int (nI (chU (aLe A a).1 un)), .int ep, .int fc])) := j0
  have hs : xSt F1 (b + 1) ((aLe A a).2) := j1
  have hbt : xBt F1 (b + 109) (nb1_6) (fb1_6) := j2
  have hps : xPs F1 (b) ((updA past (pp % 9) A)) := j3
  have hag : ∀ a9 : Nat, (a9 < b ∨ b + 566 ≤ a9) → F1 a9 = F a9 := fun a9 q0 => (hag9 a9 (by omega) (by omega) (by omega) (by omega)).trans (hag a9 q0)
  have hg_6 := hag9
  clear hag9
  refine x_istore_n hC d_MessageCoder_learn_9 rfl (Nat.le_of_ble_eq_true rfl) (L1 := [some (.ref b), some (.int a), some (.int ((aLe A a).1))]) rfl ?_
  refine x_iload_n hC d_MessageCoder_learn_10 rfl rfl ?_
  refine x_bipush hC d_MessageCoder_learn_11 (v := -3) (by decide) ?_
  refine x_icmp_ne hC d_MessageCoder_learn_13 (tgt := 26) (by decide) (fun c_13 => ?_) (fun c_13 => ?_)
  · skip
    refine x_iload_n hC d_MessageCoder_learn_26 rfl rfl ?_
    exact hret _ _ _ _ _ _ _ d_MessageCoder_learn_27 (by decide) (by decide) rfl (⟨rfl, rfl, ⟨b0, hs, hv, ⟨pf, hpa, hpf⟩, ⟨_, _, _, _, _, _, p0, hK⟩, hin, hli, ⟨_, _, hbt⟩, hrg, ⟨_, _, htr⟩, ⟨_, hcr⟩, hps⟩, c_13, hag⟩)
  · skip
    refine x_thrN hC hR hZx (xtw2_NoSuchElementException _ _ xsr_109) rfl (Nat.le_of_ble_eq_true rfl) (by decide) (by decide) d_MessageCoder_learn_16 d_MessageCoder_learn_19 d_MessageCoder_learn_20 d_MessageCoder_learn_22 d_MessageCoder_learn_25 (fun z9 hz9 => ?_)
    exact ⟨rfl, ⟨b0, hs, hv, ⟨pf, hpa, hpf⟩, ⟨_, _, _, _, _, _, p0, hK⟩, hin, hli, ⟨_, _, hbt⟩, hrg, ⟨_, _, htr⟩, ⟨_, hcr⟩, hps⟩, c_13, hag⟩

theorem d_MessageCoder_send_0 : decode prog_1_method_9_code 0 = .ok (.aload_n 0, 1) := by decide +kernel
theorem d_MessageCoder_send_1 : decode prog_1_method_9_code 1 = .ok (.getstatic 118, 3) := by decide +kernel
theorem d_MessageCoder_send_4 : decode prog_1_method_9_code 4 = .ok (.iconst 0, 1) := by decide +kernel
theorem d_MessageCoder_send_5 : decode prog_1_method_9_code 5 = .ok (.iconst 0, 1) := by decide +kernel
theorem d_MessageCoder_send_6 : decode prog_1_method_9_code 6 = .ok (.invokevirtual 73, 3) := by decide +kernel
theorem d_MessageCoder_send_9 : decode prog_1_method_9_code 9 = .ok (.istore_n 1, 1) := by decide +kernel
theorem d_MessageCoder_send_10 : decode prog_1_method_9_code 10 = .ok (.iload_n 1, 1) := by decide +kernel
theorem d_MessageCoder_send_11 : decode prog_1_method_9_code 11 = .ok (.bipush (-3), 2) := by decide +kernel
theorem d_MessageCoder_send_13 : decode prog_1_method_9_code 13 = .ok (.if_icmp .ne 13, 3) := by decide +kernel
theorem d_MessageCoder_send_16 : decode prog_1_method_9_code 16 = .ok (.new 107, 3) := by decide +kernel
theorem d_MessageCoder_send_19 : decode prog_1_method_9_code 19 = .ok (.dup, 1) := by decide +kernel
theorem d_MessageCoder_send_20 : decode prog_1_method_9_code 20 = .ok (.ldc 121, 2) := by decide +kernel
theorem d_MessageCoder_send_22 : decode prog_1_method_9_code 22 = .ok (.invokespecial 111, 3) := by decide +kernel
theorem d_MessageCoder_send_25 : decode prog_1_method_9_code 25 = .ok (.athrow, 1) := by decide +kernel
theorem d_MessageCoder_send_26 : decode prog_1_method_9_code 26 = .ok (.iload_n 1, 1) := by decide +kernel
theorem d_MessageCoder_send_27 : decode prog_1_method_9_code 27 = .ok (.ireturn, 1) := by decide +kernel
set_option maxHeartbeats 4000000 in
set_option maxRecDepth 20000 in
theorem c_MessageCoder_send {P : xP} {F : xF} {z : Nat} {b : Nat} {cm : cmT} {M : mcS} {sm : Nat} (hM : xMC F (cm) (b) (M)) (hCM : xCM P cm) (hSM : xSM P sm) (hZx : xZx P) (hpp0 : M.2.2.2.2.2.2.1 < 100000) (hun0 : M.2.2.2.2.2.2.2.1 < 100000) : xMx P xy_MessageCoder_send [.ref b] F (z) 1 6 (fun r9 F9 z9 => r9 = some (.int ((aSe M.1).1)) ∧ z9 = z ∧ xMC F9 (cm) (b) ((chgM M (aSe M.1))) ∧ (¬ (aSe M.1).1 = -3) ∧ (∀ a9 : Nat, (a9 < b ∨ b + 566 ≤ a9) → F9 a9 = F a9)) (fun E9 F9 z9 => (E9 = "java/util/NoSuchElementException" ∧ xMC F9 (cm) (b) ((chgM M (aSe M.1))) ∧ ((aSe M.1).1 = -3) ∧ (∀ a9 : Nat, (a9 < b ∨ b + 566 ≤ a9) → F9 a9 = F a9))) := by
  refine xMx_i .int rfl (Nat.le_of_ble_eq_true rfl) (L0 := [some (.ref b), none]) rfl rfl fun Θ hC hR hret => ?_
  have hag : ∀ a9 : Nat, (a9 < b ∨ b + 566 ≤ a9) → F a9 = F a9 := fun a9 _ => rfl
  obtain ⟨A, S, past, ⟨pn, psg⟩, ⟨lnn, lsg⟩, sv, pp, un, ep, fc⟩ := M
  obtain ⟨b0, hs, hv, ⟨pf, hpa, hpf⟩, ⟨cc, pa, f1, f2, hf, K, p0, hK⟩, hin, hli, ⟨nb, fb9, hbt⟩, hrg, ⟨tn, tsg, htr⟩, ⟨cr, hcr⟩, hps⟩ := id hM
  have b0 : F (b) = some (.inl (9, [.ref (b + 1), .ref (b + 50), .ref (b + 99), .ref (b + 100), .ref (b + 107), .ref (b + 109), .ref (b + 111), .ref (b + 122), .ref (b + 124), .int (nI (sv)), .int (nI (pp)), .int (nI (un)), .int ep, .int fc])) := b0
  have hs : xSt F (b + 1) (A) := hs
  have hv : xSt F (b + 50) (S) := hv
  have hpa : F (b + 99) = some (.inr (4, 9, pf)) := hpa
  have p0 : F (b + 100) = some (.inl (4, [.ref (b + 101), .ref (b + 103), .ref (b + 104), .ref (b + 105), .ref (b + 106), .int (nI (K.1)), .int (nI (cc)), .int (nI (pa)), .int (nI (f1)), .int (nI (f2)), .int (nI (hf))])) := p0
  have hK : xPk F (b + 100) (cm.2.1) (K) := hK
  have hin : xTx F (b + 101) (60) (pn) (psg) := hin
  have hli : xTx F (b + 107) (32) (lnn) (lsg) := hli
  have hbt : xBt F (b + 109) (nb) (fb9) := hbt
  have hrg : xRg F (b + 111) := hrg
  have htr : xTx F (b + 122) (16) (tn) (tsg) := htr
  have hcr : F (b + 124) = some (.inr (0, 17, fun b9 => .int (nI (cr b9)))) := hcr
  have hps : xPs F (b) (past) := hps
  have hpp : pp < 100000 := hpp0
  have hun : un < 100000 := hun0
  refine x_aload_n hC d_MessageCoder_send_0 rfl rfl ?_
  refine x_gets hC (v := .ref (cm.2.1 7)) (hCM.2.2.2.2.2.2.2 7 (by decide)) (x_in (x_of (xtb_5 (List.mem_of_getElem? (i := 179) (by decide +kernel)))) (by decide +kernel)) d_MessageCoder_send_1 ?_
  refine x_iconst hC d_MessageCoder_send_4 (v := nI 0) (by decide) ?_
  refine x_iconst hC d_MessageCoder_send_5 (v := nI 0) (by decide) ?_
  refine x_callV hC kv_MessageCoder_73 (c_MessageCoder_change7 (b0 := b0) (hs := hs) (hbt := hbt) (hpa := hpa) (hps := hps) (hCM := hCM) (hSM := hSM) (hpf := hpf) (hpp := by omega) (hun := by omega)) b0 rfl rfl (by decide) rfl rfl rfl (Nat.le_of_ble_eq_true rfl) (by decide) d_MessageCoder_send_6 (fun r9 F9 z9 hp9 => ?_)
  obtain ⟨nb1_6, fb1_6, rfl, h9c, j0, j1, j2, j3, hag9⟩ := hp9
  rw [h9c]
  clear h9c z9
  generalize F9 = F1 at *
  have hv : xSt F1 (b + 50) (S) := xSt_fr hv (fun a9 q1 q2 => hag9 a9 (by omega) (by omega) (by omega) (by omega))
  have hpa : F1 (b + 99) = some (.inr (4, 9, pf)) := (hag9 _ (by omega) (by omega) (by omega) (by omega)).trans hpa
  have p0 : F1 (b + 100) = some (.inl (4, [.ref (b + 101), .ref (b + 103), .ref (b + 104), .ref (b + 105), .ref (b + 106), .int (nI (K.1)), .int (nI (cc)), .int (nI (pa)), .int (nI (f1)), .int (nI (f2)), .int (nI (hf))])) := (hag9 _ (by omega) (by omega) (by omega) (by omega)).trans p0
  have hK : xPk F1 (b + 100) (cm.2.1) (K) := xPk_fr hK (fun a9 q1 q2 => hag9 a9 (by omega) (by omega) (by omega) (by omega))
  have hin : xTx F1 (b + 101) (60) (pn) (psg) := xTx_fr hin (fun a9 q1 q2 => hag9 a9 (by omega) (by omega) (by omega) (by omega))
  have hli : xTx F1 (b + 107) (32) (lnn) (lsg) := xTx_fr hli (fun a9 q1 q2 => hag9 a9 (by omega) (by omega) (by omega) (by omega))
  have hrg : xRg F1 (b + 111) := xRg_fr hrg (fun a9 q1 q2 => hag9 a9 (by omega) (by omega) (by omega) (by omega))
  have htr : xTx F1 (b + 122) (16) (tn) (tsg) := xTx_fr htr (fun a9 q1 q2 => hag9 a9 (by omega) (by omega) (by omega) (by omega))
  have hcr : F1 (b + 124) = some (.inr (0, 17, fun b9 => .int (nI (cr b9)))) := (hag9 _ (by omega) (by omega) (by omega) (by omega)).trans hcr
  have b0 : F1 (b) = some (.inl (9, [.ref (b + 1), .ref (b + 50), .ref (b + 99), .ref (b + 100), .ref (b + 107), .ref (b + 109), .ref (b + 111), .ref (b + 122), .ref (b + 124), .int (nI (sv)), .int (nI (chP (aSe A).1 pp)), .int (nI (chU (aSe A).1 un)), .int ep, .int fc])) := j0
  have hs : xSt F1 (b + 1) ((aSe A).2) := j1
  have hbt : xBt F1 (b + 109) (nb1_6) (fb1_6) := j2
  have hps : xPs F1 (b) ((updA past (pp % 9) A)) := j3
  have hag : ∀ a9 : Nat, (a9 < b ∨ b + 566 ≤ a9) → F1 a9 = F a9 := fun a9 q0 => (hag9 a9 (by omega) (by omega) (by omega) (by omega)).trans (hag a9 q0)
  have hg_6 := hag9
  clear hag9
  refine x_istore_n hC d_MessageCoder_send_9 rfl (Nat.le_of_ble_eq_true rfl) (L1 := [some (.ref b), some (.int ((aSe A).1))]) rfl ?_
  refine x_iload_n hC d_MessageCoder_send_10 rfl rfl ?_
  refine x_bipush hC d_MessageCoder_send_11 (v := -3) (by decide) ?_
  refine x_icmp_ne hC d_MessageCoder_send_13 (tgt := 26) (by decide) (fun c_13 => ?_) (fun c_13 => ?_)
  · skip
    refine x_iload_n hC d_MessageCoder_send_26 rfl rfl ?_
    exact hret _ _ _ _ _ _ _ d_MessageCoder_send_27 (by decide) (by decide) rfl (⟨rfl, rfl, ⟨b0, hs, hv, ⟨pf, hpa, hpf⟩, ⟨_, _, _, _, _, _, p0, hK⟩, hin, hli, ⟨_, _, hbt⟩, hrg, ⟨_, _, htr⟩, ⟨_, hcr⟩, hps⟩, c_13, hag⟩)
  · skip
    refine x_thrN hC hR hZx (xtw2_NoSuchElementException _ _ xsr_121) rfl (Nat.le_of_ble_eq_true rfl) (by decide) (by decide) d_MessageCoder_send_16 d_MessageCoder_send_19 d_MessageCoder_send_20 d_MessageCoder_send_22 d_MessageCoder_send_25 (fun z9 hz9 => ?_)
    exact ⟨rfl, ⟨b0, hs, hv, ⟨pf, hpa, hpf⟩, ⟨_, _, _, _, _, _, p0, hK⟩, hin, hli, ⟨_, _, hbt⟩, hrg, ⟨_, _, htr⟩, ⟨_, hcr⟩, hps⟩, c_13, hag⟩

theorem d_MessageCoder_flip_0 : decode prog_1_method_10_code 0 = .ok (.aload_n 0, 1) := by decide +kernel
theorem d_MessageCoder_flip_1 : decode prog_1_method_10_code 1 = .ok (.getstatic 123, 3) := by decide +kernel
theorem d_MessageCoder_flip_4 : decode prog_1_method_10_code 4 = .ok (.iload_n 1, 1) := by decide +kernel
theorem d_MessageCoder_flip_5 : decode prog_1_method_10_code 5 = .ok (.iconst 0, 1) := by decide +kernel
theorem d_MessageCoder_flip_6 : decode prog_1_method_10_code 6 = .ok (.invokevirtual 73, 3) := by decide +kernel
theorem d_MessageCoder_flip_9 : decode prog_1_method_10_code 9 = .ok (.istore_n 2, 1) := by decide +kernel
theorem d_MessageCoder_flip_10 : decode prog_1_method_10_code 10 = .ok (.iload_n 2, 1) := by decide +kernel
theorem d_MessageCoder_flip_11 : decode prog_1_method_10_code 11 = .ok (.bipush (-4), 2) := by decide +kernel
theorem d_MessageCoder_flip_13 : decode prog_1_method_10_code 13 = .ok (.if_icmp .ne 13, 3) := by decide +kernel
theorem d_MessageCoder_flip_16 : decode prog_1_method_10_code 16 = .ok (.new 126, 3) := by decide +kernel
theorem d_MessageCoder_flip_19 : decode prog_1_method_10_code 19 = .ok (.dup, 1) := by decide +kernel
theorem d_MessageCoder_flip_20 : decode prog_1_method_10_code 20 = .ok (.ldc 128, 2) := by decide +kernel
theorem d_MessageCoder_flip_22 : decode prog_1_method_10_code 22 = .ok (.invokespecial 130, 3) := by decide +kernel
theorem d_MessageCoder_flip_25 : decode prog_1_method_10_code 25 = .ok (.athrow, 1) := by decide +kernel
theorem d_MessageCoder_flip_26 : decode prog_1_method_10_code 26 = .ok (.iload_n 2, 1) := by decide +kernel
theorem d_MessageCoder_flip_27 : decode prog_1_method_10_code 27 = .ok (.ireturn, 1) := by decide +kernel
set_option maxHeartbeats 4000000 in
set_option maxRecDepth 20000 in
theorem c_MessageCoder_flip {P : xP} {F : xF} {z : Nat} {b : Nat} {cm : cmT} {M : mcS} {sm : Nat} {a : Int32} (hM : xMC F (cm) (b) (M)) (hCM : xCM P cm) (hSM : xSM P sm) (hZx : xZx P) (hpp0 : M.2.2.2.2.2.2.1 < 100000) (hun0 : M.2.2.2.2.2.2.2.1 < 100000) : xMx P xy_MessageCoder_flip [.ref b, .int a] F (z) 1 6 (fun r9 F9 z9 => r9 = some (.int ((aFl M.1 a).1)) ∧ z9 = z ∧ xMC F9 (cm) (b) ((chgM M (aFl M.1 a))) ∧ (¬ (aFl M.1 a).1 = -4) ∧ (∀ a9 : Nat, (a9 < b ∨ b + 566 ≤ a9) → F9 a9 = F a9)) (fun E9 F9 z9 => (E9 = "java/lang/IndexOutOfBoundsException" ∧ xMC F9 (cm) (b) ((chgM M (aFl M.1 a))) ∧ ((aFl M.1 a).1 = -4) ∧ (∀ a9 : Nat, (a9 < b ∨ b + 566 ≤ a9) → F9 a9 = F a9))) := by
  refine xMx_i .int rfl (Nat.le_of_ble_eq_true rfl) (L0 := [some (.ref b), some (.int a), none]) rfl rfl fun Θ hC hR hret => ?_
  have hag : ∀ a9 : Nat, (a9 < b ∨ b + 566 ≤ a9) → F a9 = F a9 := fun a9 _ => rfl
  obtain ⟨A, S, past, ⟨pn, psg⟩, ⟨lnn, lsg⟩, sv, pp, un, ep, fc⟩ := M
  obtain ⟨b0, hs, hv, ⟨pf, hpa, hpf⟩, ⟨cc, pa, f1, f2, hf, K, p0, hK⟩, hin, hli, ⟨nb, fb9, hbt⟩, hrg, ⟨tn, tsg, htr⟩, ⟨cr, hcr⟩, hps⟩ := id hM
  have b0 : F (b) = some (.inl (9, [.ref (b + 1), .ref (b + 50), .ref (b + 99), .ref (b + 100), .ref (b + 107), .ref (b + 109), .ref (b + 111), .ref (b + 122), .ref (b + 124), .int (nI (sv)), .int (nI (pp)), .int (nI (un)), .int ep, .int fc])) := b0
  have hs : xSt F (b + 1) (A) := hs
  have hv : xSt F (b + 50) (S) := hv
  have hpa : F (b + 99) = some (.inr (4, 9, pf)) := hpa
  have p0 : F (b + 100) = some (.inl (4, [.ref (b + 101), .ref (b + 103), .ref (b + 104), .ref (b + 105), .ref (b + 106), .int (nI (K.1)), .int (nI (cc)), .int (nI (pa)), .int (nI (f1)), .int (nI (f2)), .int (nI (hf))])) := p0
  have hK : xPk F (b + 100) (cm.2.1) (K) := hK
  have hin : xTx F (b + 101) (60) (pn) (psg) := hin
  have hli : xTx F (b + 107) (32) (lnn) (lsg) := hli
  have hbt : xBt F (b + 109) (nb) (fb9) := hbt
  have hrg : xRg F (b + 111) := hrg
  have htr : xTx F (b + 122) (16) (tn) (tsg) := htr
  have hcr : F (b + 124) = some (.inr (0, 17, fun b9 => .int (nI (cr b9)))) := hcr
  have hps : xPs F (b) (past) := hps
  have hpp : pp < 100000 := hpp0
  have hun : un < 100000 := hun0
  refine x_aload_n hC d_MessageCoder_flip_0 rfl rfl ?_
  refine x_gets hC (v := .ref (cm.2.1 8)) (hCM.2.2.2.2.2.2.2 8 (by decide)) (x_in (x_of (xtb_5 (List.mem_of_getElem? (i := 189) (by decide +kernel)))) (by decide +kernel)) d_MessageCoder_flip_1 ?_
  refine x_iload_n hC d_MessageCoder_flip_4 rfl rfl ?_
  refine x_iconst hC d_MessageCoder_flip_5 (v := nI 0) (by decide) ?_
  refine x_callV hC kv_MessageCoder_73 (c_MessageCoder_change8 (b0 := b0) (hs := hs) (hbt := hbt) (hpa := hpa) (hps := hps) (hCM := hCM) (hSM := hSM) (hpf := hpf) (hpp := by omega) (hun := by omega)) b0 rfl rfl (by decide) rfl rfl rfl (Nat.le_of_ble_eq_true rfl) (by decide) d_MessageCoder_flip_6 (fun r9 F9 z9 hp9 => ?_)
  obtain ⟨nb1_6, fb1_6, rfl, h9c, j0, j1, j2, j3, hag9⟩ := hp9
  rw [h9c]
  clear h9c z9
  generalize F9 = F1 at *
  have hv : xSt F1 (b + 50) (S) := xSt_fr hv (fun a9 q1 q2 => hag9 a9 (by omega) (by omega) (by omega) (by omega))
  have hpa : F1 (b + 99) = some (.inr (4, 9, pf)) := (hag9 _ (by omega) (by omega) (by omega) (by omega)).trans hpa
  have p0 : F1 (b + 100) = some (.inl (4, [.ref (b + 101), .ref (b + 103), .ref (b + 104), .ref (b + 105), .ref (b + 106), .int (nI (K.1)), .int (nI (cc)), .int (nI (pa)), .int (nI (f1)), .int (nI (f2)), .int (nI (hf))])) := (hag9 _ (by omega) (by omega) (by omega) (by omega)).trans p0
  have hK : xPk F1 (b + 100) (cm.2.1) (K) := xPk_fr hK (fun a9 q1 q2 => hag9 a9 (by omega) (by omega) (by omega) (by omega))
  have hin : xTx F1 (b + 101) (60) (pn) (psg) := xTx_fr hin (fun a9 q1 q2 => hag9 a9 (by omega) (by omega) (by omega) (by omega))
  have hli : xTx F1 (b + 107) (32) (lnn) (lsg) := xTx_fr hli (fun a9 q1 q2 => hag9 a9 (by omega) (by omega) (by omega) (by omega))
  have hrg : xRg F1 (b + 111) := xRg_fr hrg (fun a9 q1 q2 => hag9 a9 (by omega) (by omega) (by omega) (by omega))
  have htr : xTx F1 (b + 122) (16) (tn) (tsg) := xTx_fr htr (fun a9 q1 q2 => hag9 a9 (by omega) (by omega) (by omega) (by omega))
  have hcr : F1 (b + 124) = some (.inr (0, 17, fun b9 => .int (nI (cr b9)))) := (hag9 _ (by omega) (by omega) (by omega) (by omega)).trans hcr
  have b0 : F1 (b) = some (.inl (9, [.ref (b + 1), .ref (b + 50), .ref (b + 99), .ref (b + 100), .ref (b + 107), .ref (b + 109), .ref (b + 111), .ref (b + 122), .ref (b + 124), .int (nI (sv)), .int (nI (chP (aFl A a).1 pp)), .int (nI (chU (aFl A a).1 un)), .int ep, .int fc])) := j0
  have hs : xSt F1 (b + 1) ((aFl A a).2) := j1
  have hbt : xBt F1 (b + 109) (nb1_6) (fb1_6) := j2
  have hps : xPs F1 (b) ((updA past (pp % 9) A)) := j3
  have hag : ∀ a9 : Nat, (a9 < b ∨ b + 566 ≤ a9) → F1 a9 = F a9 := fun a9 q0 => (hag9 a9 (by omega) (by omega) (by omega) (by omega)).trans (hag a9 q0)
  have hg_6 := hag9
  clear hag9
  refine x_istore_n hC d_MessageCoder_flip_9 rfl (Nat.le_of_ble_eq_true rfl) (L1 := [some (.ref b), some (.int a), some (.int ((aFl A a).1))]) rfl ?_
  refine x_iload_n hC d_MessageCoder_flip_10 rfl rfl ?_
  refine x_bipush hC d_MessageCoder_flip_11 (v := -4) (by decide) ?_
  refine x_icmp_ne hC d_MessageCoder_flip_13 (tgt := 26) (by decide) (fun c_13 => ?_) (fun c_13 => ?_)
  · skip
    refine x_iload_n hC d_MessageCoder_flip_26 rfl rfl ?_
    exact hret _ _ _ _ _ _ _ d_MessageCoder_flip_27 (by decide) (by decide) rfl (⟨rfl, rfl, ⟨b0, hs, hv, ⟨pf, hpa, hpf⟩, ⟨_, _, _, _, _, _, p0, hK⟩, hin, hli, ⟨_, _, hbt⟩, hrg, ⟨_, _, htr⟩, ⟨_, hcr⟩, hps⟩, c_13, hag⟩)
  · skip
    refine x_thr hC hR hZx (xtw2_IndexOutOfBoundsException _ _ xsr_128) rfl (Nat.le_of_ble_eq_true rfl) (by decide) (by decide) d_MessageCoder_flip_16 d_MessageCoder_flip_19 d_MessageCoder_flip_20 d_MessageCoder_flip_22 d_MessageCoder_flip_25 (fun z9 hz9 => ?_)
    exact ⟨rfl, ⟨b0, hs, hv, ⟨pf, hpa, hpf⟩, ⟨_, _, _, _, _, _, p0, hK⟩, hin, hli, ⟨_, _, hbt⟩, hrg, ⟨_, _, htr⟩, ⟨_, hcr⟩, hps⟩, c_13, hag⟩

theorem d_MessageCoder_receive_0 : decode prog_1_method_11_code 0 = .ok (.aload_n 0, 1) := by decide +kernel
theorem d_MessageCoder_receive_1 : decode prog_1_method_11_code 1 = .ok (.getstatic 131, 3) := by decide +kernel
theorem d_MessageCoder_receive_4 : decode prog_1_method_11_code 4 = .ok (.iconst 0, 1) := by decide +kernel
theorem d_MessageCoder_receive_5 : decode prog_1_method_11_code 5 = .ok (.iconst 0, 1) := by decide +kernel
theorem d_MessageCoder_receive_6 : decode prog_1_method_11_code 6 = .ok (.invokevirtual 73, 3) := by decide +kernel
theorem d_MessageCoder_receive_9 : decode prog_1_method_11_code 9 = .ok (.istore_n 1, 1) := by decide +kernel
theorem d_MessageCoder_receive_10 : decode prog_1_method_11_code 10 = .ok (.iload_n 1, 1) := by decide +kernel
theorem d_MessageCoder_receive_11 : decode prog_1_method_11_code 11 = .ok (.bipush (-3), 2) := by decide +kernel
theorem d_MessageCoder_receive_13 : decode prog_1_method_11_code 13 = .ok (.if_icmp .ne 13, 3) := by decide +kernel
theorem d_MessageCoder_receive_16 : decode prog_1_method_11_code 16 = .ok (.new 107, 3) := by decide +kernel
theorem d_MessageCoder_receive_19 : decode prog_1_method_11_code 19 = .ok (.dup, 1) := by decide +kernel
theorem d_MessageCoder_receive_20 : decode prog_1_method_11_code 20 = .ok (.ldc 134, 2) := by decide +kernel
theorem d_MessageCoder_receive_22 : decode prog_1_method_11_code 22 = .ok (.invokespecial 111, 3) := by decide +kernel
theorem d_MessageCoder_receive_25 : decode prog_1_method_11_code 25 = .ok (.athrow, 1) := by decide +kernel
theorem d_MessageCoder_receive_26 : decode prog_1_method_11_code 26 = .ok (.iload_n 1, 1) := by decide +kernel
theorem d_MessageCoder_receive_27 : decode prog_1_method_11_code 27 = .ok (.ireturn, 1) := by decide +kernel
set_option maxHeartbeats 4000000 in
set_option maxRecDepth 20000 in
theorem c_MessageCoder_receive {P : xP} {F : xF} {z : Nat} {b : Nat} {cm : cmT} {M : mcS} {sm : Nat} (hM : xMC F (cm) (b) (M)) (hCM : xCM P cm) (hSM : xSM P sm) (hZx : xZx P) (hpp0 : M.2.2.2.2.2.2.1 < 100000) (hun0 : M.2.2.2.2.2.2.2.1 < 100000) : xMx P xy_MessageCoder_receive [.ref b] F (z) 1 6 (fun r9 F9 z9 => r9 = some (.int ((aRe M.1).1)) ∧ z9 = z ∧ xMC F9 (cm) (b) ((chgM M (aRe M.1))) ∧ (¬ (aRe M.1).1 = -3) ∧ (∀ a9 : Nat, (a9 < b ∨ b + 566 ≤ a9) → F9 a9 = F a9)) (fun E9 F9 z9 => (E9 = "java/util/NoSuchElementException" ∧ xMC F9 (cm) (b) ((chgM M (aRe M.1))) ∧ ((aRe M.1).1 = -3) ∧ (∀ a9 : Nat, (a9 < b ∨ b + 566 ≤ a9) → F9 a9 = F a9))) := by
  refine xMx_i .int rfl (Nat.le_of_ble_eq_true rfl) (L0 := [some (.ref b), none]) rfl rfl fun Θ hC hR hret => ?_
  have hag : ∀ a9 : Nat, (a9 < b ∨ b + 566 ≤ a9) → F a9 = F a9 := fun a9 _ => rfl
  obtain ⟨A, S, past, ⟨pn, psg⟩, ⟨lnn, lsg⟩, sv, pp, un, ep, fc⟩ := M
  obtain ⟨b0, hs, hv, ⟨pf, hpa, hpf⟩, ⟨cc, pa, f1, f2, hf, K, p0, hK⟩, hin, hli, ⟨nb, fb9, hbt⟩, hrg, ⟨tn, tsg, htr⟩, ⟨cr, hcr⟩, hps⟩ := id hM
  have b0 : F (b) = some (.inl (9, [.ref (b + 1), .ref (b + 50), .ref (b + 99), .ref (b + 100), .ref (b + 107), .ref (b + 109), .ref (b + 111), .ref (b + 122), .ref (b + 124), .int (nI (sv)), .int (nI (pp)), .int (nI (un)), .int ep, .int fc])) := b0
  have hs : xSt F (b + 1) (A) := hs
  have hv : xSt F (b + 50) (S) := hv
  have hpa : F (b + 99) = some (.inr (4, 9, pf)) := hpa
  have p0 : F (b + 100) = some (.inl (4, [.ref (b + 101), .ref (b + 103), .ref (b + 104), .ref (b + 105), .ref (b + 106), .int (nI (K.1)), .int (nI (cc)), .int (nI (pa)), .int (nI (f1)), .int (nI (f2)), .int (nI (hf))])) := p0
  have hK : xPk F (b + 100) (cm.2.1) (K) := hK
  have hin : xTx F (b + 101) (60) (pn) (psg) := hin
  have hli : xTx F (b + 107) (32) (lnn) (lsg) := hli
  have hbt : xBt F (b + 109) (nb) (fb9) := hbt
  have hrg : xRg F (b + 111) := hrg
  have htr : xTx F (b + 122) (16) (tn) (tsg) := htr
  have hcr : F (b + 124) = some (.inr (0, 17, fun b9 => .int (nI (cr b9)))) := hcr
  have hps : xPs F (b) (past) := hps
  have hpp : pp < 100000 := hpp0
  have hun : un < 100000 := hun0
  refine x_aload_n hC d_MessageCoder_receive_0 rfl rfl ?_
  refine x_gets hC (v := .ref (cm.2.1 9)) (hCM.2.2.2.2.2.2.2 9 (by decide)) (x_in (x_of (xtb_5 (List.mem_of_getElem? (i := 199) (by decide +kernel)))) (by decide +kernel)) d_MessageCoder_receive_1 ?_
  refine x_iconst hC d_MessageCoder_receive_4 (v := nI 0) (by decide) ?_
  refine x_iconst hC d_MessageCoder_receive_5 (v := nI 0) (by decide) ?_
  refine x_callV hC kv_MessageCoder_73 (c_MessageCoder_change9 (b0 := b0) (hs := hs) (hbt := hbt) (hpa := hpa) (hps := hps) (hCM := hCM) (hSM := hSM) (hpf := hpf) (hpp := by omega) (hun := by omega)) b0 rfl rfl (by decide) rfl rfl rfl (Nat.le_of_ble_eq_true rfl) (by decide) d_MessageCoder_receive_6 (fun r9 F9 z9 hp9 => ?_)
  obtain ⟨nb1_6, fb1_6, rfl, h9c, j0, j1, j2, j3, hag9⟩ := hp9
  rw [h9c]
  clear h9c z9
  generalize F9 = F1 at *
  have hv : xSt F1 (b + 50) (S) := xSt_fr hv (fun a9 q1 q2 => hag9 a9 (by omega) (by omega) (by omega) (by omega))
  have hpa : F1 (b + 99) = some (.inr (4, 9, pf)) := (hag9 _ (by omega) (by omega) (by omega) (by omega)).trans hpa
  have p0 : F1 (b + 100) = some (.inl (4, [.ref (b + 101), .ref (b + 103), .ref (b + 104), .ref (b + 105), .ref (b + 106), .int (nI (K.1)), .int (nI (cc)), .int (nI (pa)), .int (nI (f1)), .int (nI (f2)), .int (nI (hf))])) := (hag9 _ (by omega) (by omega) (by omega) (by omega)).trans p0
  have hK : xPk F1 (b + 100) (cm.2.1) (K) := xPk_fr hK (fun a9 q1 q2 => hag9 a9 (by omega) (by omega) (by omega) (by omega))
  have hin : xTx F1 (b + 101) (60) (pn) (psg) := xTx_fr hin (fun a9 q1 q2 => hag9 a9 (by omega) (by omega) (by omega) (by omega))
  have hli : xTx F1 (b + 107) (32) (lnn) (lsg) := xTx_fr hli (fun a9 q1 q2 => hag9 a9 (by omega) (by omega) (by omega) (by omega))
  have hrg : xRg F1 (b + 111) := xRg_fr hrg (fun a9 q1 q2 => hag9 a9 (by omega) (by omega) (by omega) (by omega))
  have htr : xTx F1 (b + 122) (16) (tn) (tsg) := xTx_fr htr (fun a9 q1 q2 => hag9 a9 (by omega) (by omega) (by omega) (by omega))
  have hcr : F1 (b + 124) = some (.inr (0, 17, fun b9 => .int (nI (cr b9)))) := (hag9 _ (by omega) (by omega) (by omega) (by omega)).trans hcr
  have b0 : F1 (b) = some (.inl (9, [.ref (b + 1), .ref (b + 50), .ref (b + 99), .ref (b + 100), .ref (b + 107), .ref (b + 109), .ref (b + 111), .ref (b + 122), .ref (b + 124), .int (nI (sv)), .int (nI (chP (aRe A).1 pp)), .int (nI (chU (aRe A).1 un)), .int ep, .int fc])) := j0
  have hs : xSt F1 (b + 1) ((aRe A).2) := j1
  have hbt : xBt F1 (b + 109) (nb1_6) (fb1_6) := j2
  have hps : xPs F1 (b) ((updA past (pp % 9) A)) := j3
  have hag : ∀ a9 : Nat, (a9 < b ∨ b + 566 ≤ a9) → F1 a9 = F a9 := fun a9 q0 => (hag9 a9 (by omega) (by omega) (by omega) (by omega)).trans (hag a9 q0)
  have hg_6 := hag9
  clear hag9
  refine x_istore_n hC d_MessageCoder_receive_9 rfl (Nat.le_of_ble_eq_true rfl) (L1 := [some (.ref b), some (.int ((aRe A).1))]) rfl ?_
  refine x_iload_n hC d_MessageCoder_receive_10 rfl rfl ?_
  refine x_bipush hC d_MessageCoder_receive_11 (v := -3) (by decide) ?_
  refine x_icmp_ne hC d_MessageCoder_receive_13 (tgt := 26) (by decide) (fun c_13 => ?_) (fun c_13 => ?_)
  · skip
    refine x_iload_n hC d_MessageCoder_receive_26 rfl rfl ?_
    exact hret _ _ _ _ _ _ _ d_MessageCoder_receive_27 (by decide) (by decide) rfl (⟨rfl, rfl, ⟨b0, hs, hv, ⟨pf, hpa, hpf⟩, ⟨_, _, _, _, _, _, p0, hK⟩, hin, hli, ⟨_, _, hbt⟩, hrg, ⟨_, _, htr⟩, ⟨_, hcr⟩, hps⟩, c_13, hag⟩)
  · skip
    refine x_thrN hC hR hZx (xtw2_NoSuchElementException _ _ xsr_134) rfl (Nat.le_of_ble_eq_true rfl) (by decide) (by decide) d_MessageCoder_receive_16 d_MessageCoder_receive_19 d_MessageCoder_receive_20 d_MessageCoder_receive_22 d_MessageCoder_receive_25 (fun z9 hz9 => ?_)
    exact ⟨rfl, ⟨b0, hs, hv, ⟨pf, hpa, hpf⟩, ⟨_, _, _, _, _, _, p0, hK⟩, hin, hli, ⟨_, _, hbt⟩, hrg, ⟨_, _, htr⟩, ⟨_, hcr⟩, hps⟩, c_13, hag⟩

