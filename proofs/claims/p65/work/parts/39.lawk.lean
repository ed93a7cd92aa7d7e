/-! the class, asked where it answers: by the state alone -/
set_option maxHeartbeats 1000000 in
theorem c_MessageCoder_codeLengthK {P : xP} {F : xF} {z : Nat} {b : Nat} {cm : cmT} {M : mcS} {A : aS} {c : Nat} (hM : xMC F (cm) (b) (M)) (hA : M.1 = A) (hZx : xZx P) (n0 : 97 ≤ c ∧ c < 105) : xM P xy_MessageCoder_codeLength [.ref b, .int (nI (c))] F (z) 1 6 (fun r9 F9 z9 => r9 = some (.int (nI (hLen A.1 (c - 97)))) ∧ F9 = F ∧ z9 = z) := by
  subst hA
  have h := c_MessageCoder_codeLength (P := P) (z := z) (hM := hM) (c := c) (hZx := hZx) (hcb := by omega)
  have h2 := xMx_M h (fun E9 F9 z9 hx => by
    rcases hx with ⟨-, -, h9⟩
    · exact h9 n0
    )
  exact xM_post h2 (fun r F1 z1 hp => ⟨hp.1, hp.2.1, hp.2.2.1⟩)
set_option maxHeartbeats 1000000 in
theorem c_MessageCoder_codeValueK {P : xP} {F : xF} {z : Nat} {b : Nat} {cm : cmT} {M : mcS} {A : aS} {c : Nat} (hM : xMC F (cm) (b) (M)) (hA : M.1 = A) (hZx : xZx P) (n0 : 97 ≤ c ∧ c < 105) : xM P xy_MessageCoder_codeValue [.ref b, .int (nI (c))] F (z) 1 6 (fun r9 F9 z9 => r9 = some (.int (nI (hVal (hLen A.1) (c - 97)))) ∧ F9 = F ∧ z9 = z) := by
  subst hA
  have h := c_MessageCoder_codeValue (P := P) (z := z) (hM := hM) (c := c) (hZx := hZx) (hcb := by omega)
  have h2 := xMx_M h (fun E9 F9 z9 hx => by
    rcases hx with ⟨-, -, h9⟩
    · exact h9 n0
    )
  exact xM_post h2 (fun r F1 z1 hp => ⟨hp.1, hp.2.1, hp.2.2.1⟩)
set_option maxHeartbeats 1000000 in
theorem c_MessageCoder_weightOfK {P : xP} {F : xF} {z : Nat} {b : Nat} {cm : cmT} {M : mcS} {A : aS} {c : Nat} (hM : xMC F (cm) (b) (M)) (hA : M.1 = A) (hZx : xZx P) (n0 : 97 ≤ c ∧ c < 105) : xM P xy_MessageCoder_weightOf [.ref b, .int (nI (c))] F (z) 1 6 (fun r9 F9 z9 => r9 = some (.int (nI (A.1 (c - 97)))) ∧ F9 = F ∧ z9 = z) := by
  subst hA
  have h := c_MessageCoder_weightOf (P := P) (z := z) (hM := hM) (c := c) (hZx := hZx) (hcb := by omega)
  have h2 := xMx_M h (fun E9 F9 z9 hx => by
    rcases hx with ⟨-, -, h9⟩
    · exact h9 n0
    )
  exact xM_post h2 (fun r F1 z1 hp => ⟨hp.1, hp.2.1, hp.2.2.1⟩)
set_option maxHeartbeats 1000000 in
theorem c_MessageCoder_symbolByCodeK {P : xP} {F : xF} {z : Nat} {b : Nat} {cm : cmT} {M : mcS} {A : aS} {k : Nat} (hM : xMC F (cm) (b) (M)) (hA : M.1 = A) (hZx : xZx P) (n0 : k < 8) : xM P xy_MessageCoder_symbolByCode [.ref b, .int (nI (k))] F (z) 1 6 (fun r9 F9 z9 => r9 = some (.int (nI (97 + hOrd (hLen A.1) k))) ∧ F9 = F ∧ z9 = z) := by
  subst hA
  have h := c_MessageCoder_symbolByCode (P := P) (z := z) (hM := hM) (r := nI k) (hZx := hZx)
  rw [show (nI k).toNatClampNeg = k from nI_clamp (by omega)] at h
  have h2 := xMx_M h (fun E9 F9 z9 hx => by
    rcases hx with ⟨-, -, h9⟩
    · exact h9 (xt_in n0 (by omega))
    )
  exact xM_post h2 (fun r F1 z1 hp => ⟨hp.1, hp.2.1, hp.2.2.1⟩)
set_option maxHeartbeats 1000000 in
theorem c_MessageCoder_draftAtK {P : xP} {F : xF} {z : Nat} {b : Nat} {cm : cmT} {M : mcS} {A : aS} {k : Nat} (hM : xMC F (cm) (b) (M)) (hA : M.1 = A) (hZx : xZx P) (n0 : k < A.2.1.1 ∧ A.2.1.1 ≤ 16) : xM P xy_MessageCoder_draftAt [.ref b, .int (nI (k))] F (z) 1 6 (fun r9 F9 z9 => r9 = some (.int (nI (A.2.1.2 k))) ∧ F9 = F ∧ z9 = z) := by
  subst hA
  have h := c_MessageCoder_draftAt (P := P) (z := z) (hM := hM) (i := nI k) (hZx := hZx)
  rw [show (nI k).toNatClampNeg = k from nI_clamp (by omega)] at h
  have h2 := xMx_M h (fun E9 F9 z9 hx => by
    rcases hx with ⟨-, -, h9⟩
    · exact h9 (xt_in n0.1 (by omega))
    )
  exact xM_post h2 (fun r F1 z1 hp => ⟨hp.1, hp.2.1, hp.2.2.1⟩)
set_option maxHeartbeats 1000000 in
theorem c_MessageCoder_messageAtK {P : xP} {F : xF} {z : Nat} {b : Nat} {cm : cmT} {M : mcS} {A : aS} {k : Nat} (hM : xMC F (cm) (b) (M)) (hA : M.1 = A) (hZx : xZx P) (n0 : mRk A (nI k) < A.2.2.1.1) : xM P xy_MessageCoder_messageAt [.ref b, .int (nI (k))] F (z) 1 6 (fun r9 F9 z9 => r9 = some (.int (nI ((A.2.2.1.2.2 (mRk A (nI k))).1))) ∧ F9 = F ∧ z9 = z) := by
  subst hA
  have h := c_MessageCoder_messageAt (P := P) (z := z) (hM := hM) (a := nI k) (hZx := hZx)
  have h2 := xMx_M h (fun E9 F9 z9 hx => by
    rcases hx with ⟨-, -, h9⟩
    · exact h9 n0
    )
  exact xM_post h2 (fun r F1 z1 hp => ⟨hp.1, hp.2.1, hp.2.2.1⟩)
set_option maxHeartbeats 1000000 in
theorem c_MessageCoder_priorityOfK {P : xP} {F : xF} {z : Nat} {b : Nat} {cm : cmT} {M : mcS} {A : aS} {a : Nat} {e : mS} (hM : xMC F (cm) (b) (M)) (hA : M.1 = A) (hZx : xZx P) (n0 : mOk A (nI a)) (he : mAt A (nI a) = e) : xM P xy_MessageCoder_priorityOf [.ref b, .int (nI (a))] F (z) 1 6 (fun r9 F9 z9 => r9 = some (.int (nI (e.2.1))) ∧ F9 = F ∧ z9 = z) := by
  subst hA
  subst he
  have h := c_MessageCoder_priorityOf (P := P) (z := z) (hM := hM) (a := nI a) (hZx := hZx)
  have h2 := xMx_M h (fun E9 F9 z9 hx => by
    rcases hx with ⟨-, -, h9⟩
    · exact h9 n0
    )
  exact xM_post h2 (fun r F1 z1 hp => ⟨hp.1, hp.2.1, hp.2.2.1⟩)
set_option maxHeartbeats 1000000 in
theorem c_MessageCoder_lengthOfK {P : xP} {F : xF} {z : Nat} {b : Nat} {cm : cmT} {M : mcS} {A : aS} {a : Nat} {e : mS} (hM : xMC F (cm) (b) (M)) (hA : M.1 = A) (hZx : xZx P) (n0 : mOk A (nI a)) (he : mAt A (nI a) = e) : xM P xy_MessageCoder_lengthOf [.ref b, .int (nI (a))] F (z) 1 6 (fun r9 F9 z9 => r9 = some (.int (nI (e.2.2.1))) ∧ F9 = F ∧ z9 = z) := by
  subst hA
  subst he
  have h := c_MessageCoder_lengthOf (P := P) (z := z) (hM := hM) (a := nI a) (hZx := hZx)
  have h2 := xMx_M h (fun E9 F9 z9 hx => by
    rcases hx with ⟨-, -, h9⟩
    · exact h9 n0
    )
  exact xM_post h2 (fun r F1 z1 hp => ⟨hp.1, hp.2.1, hp.2.2.1⟩)
set_option maxHeartbeats 1000000 in
theorem c_MessageCoder_symbolAtK {P : xP} {F : xF} {z : Nat} {b : Nat} {cm : cmT} {M : mcS} {A : aS} {a : Nat} {j : Nat} {e : mS} (hM : xMC F (cm) (b) (M)) (hA : M.1 = A) (hZx : xZx P) (n0 : mOk A (nI a)) (he : mAt A (nI a) = e) (n1 : j < e.2.2.1 ∧ e.2.2.1 ≤ 16) : xM P xy_MessageCoder_symbolAt [.ref b, .int (nI (a)), .int (nI (j))] F (z) 2 12 (fun r9 F9 z9 => r9 = some (.int (nI (e.2.2.2 j))) ∧ F9 = F ∧ z9 = z) := by
  subst hA
  subst he
  have h := c_MessageCoder_symbolAt (P := P) (z := z) (hM := hM) (a := nI a) (i := nI j) (hZx := hZx)
  rw [show (nI j).toNatClampNeg = j from nI_clamp (by omega)] at h
  have h2 := xMx_M h (fun E9 F9 z9 hx => by
    rcases hx with ⟨-, -, h9⟩ | ⟨-, -, h9⟩
    · exact h9 n0
    · exact h9.2 (xt_in n1.1 (by omega))
    )
  exact xM_post h2 (fun r F1 z1 hp => ⟨hp.1, hp.2.1, hp.2.2.1⟩)
set_option maxHeartbeats 1000000 in
theorem c_MessageCoder_countOfK {P : xP} {F : xF} {z : Nat} {b : Nat} {cm : cmT} {M : mcS} {A : aS} {a : Nat} {c : Nat} {e : mS} (hM : xMC F (cm) (b) (M)) (hA : M.1 = A) (hZx : xZx P) (n0 : mOk A (nI a)) (he : mAt A (nI a) = e) (n1 : 97 ≤ c ∧ c < 105) : xM P xy_MessageCoder_countOf [.ref b, .int (nI (a)), .int (nI (c))] F (z) 2 12 (fun r9 F9 z9 => r9 = some (.int (nI (tmOf e.2.2.2 c e.2.2.1))) ∧ F9 = F ∧ z9 = z) := by
  subst hA
  subst he
  have h := c_MessageCoder_countOf (P := P) (z := z) (hM := hM) (a := nI a) (c := c) (hZx := hZx) (hcb := by omega)
  have h2 := xMx_M h (fun E9 F9 z9 hx => by
    rcases hx with ⟨-, -, h9⟩ | ⟨-, -, h9⟩
    · exact h9 n0
    · exact h9.2 n1
    )
  exact xM_post h2 (fun r F1 z1 hp => ⟨hp.1, hp.2.1, hp.2.2.1⟩)
set_option maxHeartbeats 1000000 in
theorem c_MessageCoder_bitCountK {P : xP} {F : xF} {z : Nat} {b : Nat} {cm : cmT} {M : mcS} {A : aS} {a : Nat} {e : mS} (hM : xMC F (cm) (b) (M)) (hA : M.1 = A) (hZx : xZx P) (n0 : mOk A (nI a)) (he : mAt A (nI a) = e) : xM P xy_MessageCoder_bitCount [.ref b, .int (nI (a))] F (z) 1 6 (fun r9 F9 z9 => r9 = some (.int (nI (bitsN (hLen A.1) e.2.2.2 e.2.2.1))) ∧ F9 = F ∧ z9 = z) := by
  subst hA
  subst he
  have h := c_MessageCoder_bitCount (P := P) (z := z) (hM := hM) (a := nI a) (hZx := hZx)
  have h2 := xMx_M h (fun E9 F9 z9 hx => by
    rcases hx with ⟨-, -, h9⟩
    · exact h9 n0
    )
  exact xM_post h2 (fun r F1 z1 hp => ⟨hp.1, hp.2.1, hp.2.2.1⟩)
set_option maxHeartbeats 1000000 in
theorem c_MessageCoder_bitAtK {P : xP} {F : xF} {z : Nat} {b : Nat} {cm : cmT} {M : mcS} {A : aS} {a : Nat} {j : Nat} {e : mS} (hM : xMC F (cm) (b) (M)) (hA : M.1 = A) (hZx : xZx P) (n0 : mOk A (nI a)) (he : mAt A (nI a) = e) (n1 : j < bitsN (hLen A.1) e.2.2.2 e.2.2.1 ∧ bitsN (hLen A.1) e.2.2.2 e.2.2.1 ≤ 112) : xM P xy_MessageCoder_bitAt [.ref b, .int (nI (a)), .int (nI (j))] F (z) 2 12 (fun r9 F9 z9 => r9 = some (.int (nI (splB (hLen A.1) (hVal (hLen A.1)) e.2.2.2 e.2.2.1 j))) ∧ z9 = z ∧ xMC F9 (cm) (b) (M) ∧ (∀ a9 : Nat, (a9 < b ∨ b + 566 ≤ a9) → F9 a9 = F a9)) := by
  subst hA
  subst he
  have h := c_MessageCoder_bitAt (P := P) (z := z) (hM := hM) (a := nI a) (i := nI j) (hZx := hZx)
  rw [show (nI j).toNatClampNeg = j from nI_clamp (by omega)] at h
  have h2 := xMx_M h (fun E9 F9 z9 hx => by
    rcases hx with ⟨-, -, h9, -⟩ | ⟨-, -, h9, -⟩
    · exact h9 n0
    · exact h9.2 (xt_in n1.1 (by omega))
    )
  exact xM_post h2 (fun r F1 z1 hp => ⟨hp.1, hp.2.1, hp.2.2.1, hp.2.2.2.2.2⟩)
set_option maxHeartbeats 1000000 in
theorem c_MessageCoder_checksumK {P : xP} {F : xF} {z : Nat} {b : Nat} {cm : cmT} {M : mcS} {A : aS} {a : Nat} {e : mS} (hM : xMC F (cm) (b) (M)) (hA : M.1 = A) (hZx : xZx P) (n0 : mOk A (nI a)) (he : mAt A (nI a) = e) : xM P xy_MessageCoder_checksum [.ref b, .int (nI (a))] F (z) 1 6 (fun r9 F9 z9 => r9 = some (.int (nI (crcB (bitsN (hLen A.1) e.2.2.2 e.2.2.1) (splB (hLen A.1) (hVal (hLen A.1)) e.2.2.2 e.2.2.1) (bitsN (hLen A.1) e.2.2.2 e.2.2.1 + 4)))) ∧ z9 = z ∧ xMC F9 (cm) (b) (M) ∧ (∀ a9 : Nat, (a9 < b ∨ b + 566 ≤ a9) → F9 a9 = F a9)) := by
  subst hA
  subst he
  have h := c_MessageCoder_checksum (P := P) (z := z) (hM := hM) (a := nI a) (hZx := hZx)
  have h2 := xMx_M h (fun E9 F9 z9 hx => by
    rcases hx with ⟨-, -, h9, -⟩
    · exact h9 n0
    )
  exact xM_post h2 (fun r F1 z1 hp => ⟨hp.1, hp.2.1, hp.2.2.1, hp.2.2.2.2⟩)
set_option maxHeartbeats 1000000 in
theorem c_MessageCoder_checksumByTableK {P : xP} {F : xF} {z : Nat} {b : Nat} {cm : cmT} {M : mcS} {A : aS} {a : Nat} {e : mS} {rt : Nat} (hM : xMC F (cm) (b) (M)) (hA : M.1 = A) (hZx : xZx P) (n0 : mOk A (nI a)) (he : mAt A (nI a) = e) (hSR : xSR P rt) : xM P xy_MessageCoder_checksumByTable [.ref b, .int (nI (a))] F (z) 1 6 (fun r9 F9 z9 => r9 = some (.int (nI (crcB (bitsN (hLen A.1) e.2.2.2 e.2.2.1) (splB (hLen A.1) (hVal (hLen A.1)) e.2.2.2 e.2.2.1) (bitsN (hLen A.1) e.2.2.2 e.2.2.1 + 4)))) ∧ z9 = z ∧ xMC F9 (cm) (b) (M) ∧ (∀ a9 : Nat, (a9 < b ∨ b + 566 ≤ a9) → F9 a9 = F a9)) := by
  subst hA
  subst he
  have h := c_MessageCoder_checksumByTable (P := P) (z := z) (hM := hM) (a := nI a) (hZx := hZx) (hSR := hSR)
  have h2 := xMx_M h (fun E9 F9 z9 hx => by
    rcases hx with ⟨-, -, h9, -⟩
    · exact h9 n0
    )
  exact xM_post h2 (fun r F1 z1 hp => ⟨hp.1, hp.2.1, hp.2.2.1, hp.2.2.2.2⟩)
set_option maxHeartbeats 1000000 in
theorem c_MessageCoder_areEqualK {P : xP} {F : xF} {z : Nat} {b : Nat} {cm : cmT} {M : mcS} {A : aS} {a : Nat} {c : Nat} {e : mS} {e2 : mS} (hM : xMC F (cm) (b) (M)) (hA : M.1 = A) (hZx : xZx P) (n0 : mOk A (nI a)) (he : mAt A (nI a) = e) (m0 : mOk A (nI c)) (he2 : mAt A (nI c) = e2) : xM P xy_MessageCoder_areEqual [.ref b, .int (nI (a)), .int (nI (c))] F (z) 2 12 (fun r9 F9 z9 => r9 = some (.int (xb (e.2.2.1 = e2.2.2.1 ∧ eqTo e.2.2.2 e2.2.2.2 e.2.2.1 = true))) ∧ F9 = F ∧ z9 = z) := by
  subst hA
  subst he
  subst he2
  have h := c_MessageCoder_areEqual (P := P) (z := z) (hM := hM) (a := nI a) (c := nI c) (hZx := hZx)
  have h2 := xMx_M h (fun E9 F9 z9 hx => by
    rcases hx with ⟨-, -, h9⟩
    · exact h9 ⟨n0, m0⟩
    )
  exact xM_post h2 (fun r F1 z1 hp => ⟨hp.1, hp.2.1, hp.2.2.1⟩)
set_option maxHeartbeats 1000000 in
theorem c_MessageCoder_commonLengthK {P : xP} {F : xF} {z : Nat} {b : Nat} {cm : cmT} {M : mcS} {A : aS} {a : Nat} {c : Nat} {e : mS} {e2 : mS} (hM : xMC F (cm) (b) (M)) (hA : M.1 = A) (hZx : xZx P) (n0 : mOk A (nI a)) (he : mAt A (nI a) = e) (m0 : mOk A (nI c)) (he2 : mAt A (nI c) = e2) : xM P xy_MessageCoder_commonLength [.ref b, .int (nI (a)), .int (nI (c))] F (z) 2 12 (fun r9 F9 z9 => r9 = some (.int (nI (lcs e.2.2.2 e2.2.2.2 e.2.2.1 e2.2.2.1))) ∧ z9 = z ∧ xMC F9 (cm) (b) (M) ∧ (∀ a9 : Nat, (a9 < b ∨ b + 566 ≤ a9) → F9 a9 = F a9)) := by
  subst hA
  subst he
  subst he2
  have h := c_MessageCoder_commonLength (P := P) (z := z) (hM := hM) (a := nI a) (c := nI c) (hZx := hZx)
  have h2 := xMx_M h (fun E9 F9 z9 hx => by
    rcases hx with ⟨-, -, h9, -⟩
    · exact h9 ⟨n0, m0⟩
    )
  exact xM_post h2 (fun r F1 z1 hp => ⟨hp.1, hp.2.1, hp.2.2.1, hp.2.2.2.2.2⟩)
set_option maxHeartbeats 1000000 in
theorem c_MessageCoder_frameBitK {P : xP} {F : xF} {z : Nat} {b : Nat} {cm : cmT} {M : mcS} {A : aS} {i : Nat} (hM : xMC F (cm) (b) (M)) (hA : M.1 = A) (hZx : xZx P) (n0 : i < A.2.2.2.1.1 * 7 ∧ A.2.2.2.1.1 ≤ 28) : xM P xy_MessageCoder_frameBit [.ref b, .int (nI (i))] F (z) 1 6 (fun r9 F9 z9 => r9 = some (.int (nI (bitP (A.2.2.2.1.2.1 (i / 7)) (i % 7 + 1)))) ∧ F9 = F ∧ z9 = z) := by
  subst hA
  have h := c_MessageCoder_frameBit (P := P) (z := z) (hM := hM) (i := nI i) (hZx := hZx)
  rw [show (nI i).toNatClampNeg = i from nI_clamp (by omega)] at h
  have h2 := xMx_M h (fun E9 F9 z9 hx => by
    rcases hx with ⟨-, -, h9⟩
    · exact h9 (xt_in n0.1 (by omega))
    )
  exact xM_post h2 (fun r F1 z1 hp => ⟨hp.1, hp.2.1, hp.2.2.1⟩)
set_option maxHeartbeats 1000000 in
theorem c_MessageCoder_syndromeK {P : xP} {F : xF} {z : Nat} {b : Nat} {cm : cmT} {M : mcS} {A : aS} {i : Nat} (hM : xMC F (cm) (b) (M)) (hA : M.1 = A) (hZx : xZx P) (n0 : i < A.2.2.2.1.1 ∧ A.2.2.2.1.1 ≤ 28) : xM P xy_MessageCoder_syndrome [.ref b, .int (nI (i))] F (z) 1 6 (fun r9 F9 z9 => r9 = some (.int (nI (syn (A.2.2.2.1.2.1 i)))) ∧ F9 = F ∧ z9 = z) := by
  subst hA
  have h := c_MessageCoder_syndrome (P := P) (z := z) (hM := hM) (i := nI i) (hZx := hZx)
  rw [show (nI i).toNatClampNeg = i from nI_clamp (by omega)] at h
  have h2 := xMx_M h (fun E9 F9 z9 hx => by
    rcases hx with ⟨-, -, h9⟩
    · exact h9 (xt_in n0.1 (by omega))
    )
  exact xM_post h2 (fun r F1 z1 hp => ⟨hp.1, hp.2.1, hp.2.2.1⟩)
set_option maxHeartbeats 1000000 in
theorem c_MessageCoder_correctedBitsK {P : xP} {F : xF} {z : Nat} {b : Nat} {cm : cmT} {M : mcS} {A : aS} {i : Nat} (hM : xMC F (cm) (b) (M)) (hA : M.1 = A) (hZx : xZx P) (n0 : i < A.2.2.2.1.1 ∧ A.2.2.2.1.1 ≤ 28) : xM P xy_MessageCoder_correctedBits [.ref b, .int (nI (i))] F (z) 1 6 (fun r9 F9 z9 => r9 = some (.int (nI (datN (corN (A.2.2.2.1.2.1 i))))) ∧ F9 = F ∧ z9 = z) := by
  subst hA
  have h := c_MessageCoder_correctedBits (P := P) (z := z) (hM := hM) (i := nI i) (hZx := hZx)
  rw [show (nI i).toNatClampNeg = i from nI_clamp (by omega)] at h
  have h2 := xMx_M h (fun E9 F9 z9 hx => by
    rcases hx with ⟨-, -, h9⟩
    · exact h9 (xt_in n0.1 (by omega))
    )
  exact xM_post h2 (fun r F1 z1 hp => ⟨hp.1, hp.2.1, hp.2.2.1⟩)
set_option maxHeartbeats 1000000 in
theorem c_MessageCoder_correctedBitsByDistanceK {P : xP} {F : xF} {z : Nat} {b : Nat} {cm : cmT} {M : mcS} {A : aS} {i : Nat} (hM : xMC F (cm) (b) (M)) (hA : M.1 = A) (hZx : xZx P) (n0 : i < A.2.2.2.1.1 ∧ A.2.2.2.1.1 ≤ 28) : xM P xy_MessageCoder_correctedBitsByDistance [.ref b, .int (nI (i))] F (z) 1 6 (fun r9 F9 z9 => r9 = some (.int (nI (datN (corN (A.2.2.2.1.2.1 i))))) ∧ F9 = F ∧ z9 = z) := by
  subst hA
  have h := c_MessageCoder_correctedBitsByDistance (P := P) (z := z) (hM := hM) (i := nI i) (hZx := hZx)
  rw [show (nI i).toNatClampNeg = i from nI_clamp (by omega)] at h
  have h2 := xMx_M h (fun E9 F9 z9 hx => by
    rcases hx with ⟨-, -, h9⟩
    · exact h9 (xt_in n0.1 (by omega))
    )
  exact xM_post h2 (fun r F1 z1 hp => ⟨hp.1, hp.2.1, hp.2.2.1⟩)
set_option maxHeartbeats 1000000 in
theorem c_MessageCoder_lineCharK {P : xP} {F : xF} {z : Nat} {b : Nat} {cm : cmT} {M : mcS} {A : aS} {i : Nat} (hM : xMC F (cm) (b) (M)) (hA : M.1 = A) (hZx : xZx P) (n0 : i < M.2.2.2.2.1.1 ∧ M.2.2.2.2.1.1 ≤ 100) : xM P xy_MessageCoder_lineChar [.ref b, .int (nI (i))] F (z) 1 6 (fun r9 F9 z9 => r9 = some (.int (nI (M.2.2.2.2.1.2 i))) ∧ F9 = F ∧ z9 = z) := by
  subst hA
  have h := c_MessageCoder_lineChar (P := P) (z := z) (hM := hM) (i := nI i) (hZx := hZx)
  rw [show (nI i).toNatClampNeg = i from nI_clamp (by omega)] at h
  have h2 := xMx_M h (fun E9 F9 z9 hx => by
    rcases hx with ⟨-, -, h9⟩
    · exact h9 (xt_in n0.1 (by omega))
    )
  exact xM_post h2 (fun r F1 z1 hp => ⟨hp.1, hp.2.1, hp.2.2.1⟩)
set_option maxHeartbeats 1000000 in
theorem c_MessageCoder_formatCodeK {P : xP} {F : xF} {z : Nat} {b : Nat} {cm : cmT} {M : mcS} {A : aS} {c : Nat} (hM : xMC F (cm) (b) (M)) (hA : M.1 = A) (hZx : xZx P) (n0 : 97 ≤ c ∧ c < 105) : xM P xy_MessageCoder_formatCode [.ref b, .int (nI (c))] F (z) 1 6 (fun r9 F9 z9 => r9 = some (.int (nI (2 + hLen A.1 (c - 97)))) ∧ z9 = z ∧ xMC F9 (cm) (b) (setL M (2 + hLen A.1 (c - 97)) (fmC c (hLen A.1 (c - 97)) (hVal (hLen A.1) (c - 97)))) ∧ (∀ a9 : Nat, (a9 < b ∨ b + 566 ≤ a9) → F9 a9 = F a9)) := by
  subst hA
  have h := c_MessageCoder_formatCode (P := P) (z := z) (hM := hM) (c := c) (hZx := hZx) (hcb := by omega)
  have h2 := xMx_M h (fun E9 F9 z9 hx => by
    rcases hx with ⟨-, -, h9, -⟩
    · exact h9 n0
    )
  exact xM_post h2 (fun r F1 z1 hp => ⟨hp.1, hp.2.1, hp.2.2.1, hp.2.2.2.2⟩)
set_option maxHeartbeats 1000000 in
theorem c_MessageCoder_formatMessageK {P : xP} {F : xF} {z : Nat} {b : Nat} {cm : cmT} {M : mcS} {A : aS} {a : Nat} {e : mS} (hM : xMC F (cm) (b) (M)) (hA : M.1 = A) (hZx : xZx P) (n0 : mOk A (nI a)) (he : mAt A (nI a) = e) : xM P xy_MessageCoder_formatMessage [.ref b, .int (nI (a))] F (z) 1 6 (fun r9 F9 z9 => r9 = some (.int (nI (dgs e.1 + 1 + dgs e.2.1 + 1 + e.2.2.1))) ∧ z9 = z ∧ xMC F9 (cm) (b) (setL M (dgs e.1 + 1 + dgs e.2.1 + 1 + e.2.2.1) (fmS e)) ∧ (∀ a9 : Nat, (a9 < b ∨ b + 566 ≤ a9) → F9 a9 = F a9)) := by
  subst hA
  subst he
  have h := c_MessageCoder_formatMessage (P := P) (z := z) (hM := hM) (a := nI a) (hZx := hZx)
  have h2 := xMx_M h (fun E9 F9 z9 hx => by
    rcases hx with ⟨-, -, h9, -⟩
    · exact h9 n0
    )
  exact xM_post h2 (fun r F1 z1 hp => ⟨hp.1, hp.2.1, hp.2.2.1, hp.2.2.2.2⟩)
set_option maxHeartbeats 1000000 in
theorem c_MessageCoder_totalWeightK {P : xP} {F : xF} {z : Nat} {b : Nat} {cm : cmT} {M : mcS} {A : aS} (hM : xMC F (cm) (b) (M)) (hA : M.1 = A) : xM P xy_MessageCoder_totalWeight [.ref b] F (z) 0 0 (fun r9 F9 z9 => r9 = some (.int (nI (sumN A.1 8))) ∧ F9 = F ∧ z9 = z) := by
  subst hA
  have h := c_MessageCoder_totalWeight (P := P) (z := z) (hM := hM)  
  have h2 := h
  exact h2
set_option maxHeartbeats 1000000 in
theorem c_MessageCoder_longestCodeK {P : xP} {F : xF} {z : Nat} {b : Nat} {cm : cmT} {M : mcS} {A : aS} (hM : xMC F (cm) (b) (M)) (hA : M.1 = A) : xM P xy_MessageCoder_longestCode [.ref b] F (z) 0 0 (fun r9 F9 z9 => r9 = some (.int (nI (maxN (hLen A.1) 8))) ∧ F9 = F ∧ z9 = z) := by
  subst hA
  have h := c_MessageCoder_longestCode (P := P) (z := z) (hM := hM)  
  have h2 := h
  exact h2
set_option maxHeartbeats 1000000 in
theorem c_MessageCoder_costK {P : xP} {F : xF} {z : Nat} {b : Nat} {cm : cmT} {M : mcS} {A : aS} (hM : xMC F (cm) (b) (M)) (hA : M.1 = A) : xM P xy_MessageCoder_cost [.ref b] F (z) 0 0 (fun r9 F9 z9 => r9 = some (.int (nI (hSum A.1))) ∧ F9 = F ∧ z9 = z) := by
  subst hA
  have h := c_MessageCoder_cost (P := P) (z := z) (hM := hM)  
  have h2 := h
  exact h2
set_option maxHeartbeats 1000000 in
theorem c_MessageCoder_isCompleteK {P : xP} {F : xF} {z : Nat} {b : Nat} {cm : cmT} {M : mcS} {A : aS} (hM : xMC F (cm) (b) (M)) (hA : M.1 = A) : xM P xy_MessageCoder_isComplete [.ref b] F (z) 0 0 (fun r9 F9 z9 => r9 = some (.int (nI 1)) ∧ F9 = F ∧ z9 = z) := by
  subst hA
  have h := c_MessageCoder_isComplete (P := P) (z := z) (hM := hM)  
  have h2 := h
  exact h2
set_option maxHeartbeats 1000000 in
theorem c_MessageCoder_draftLengthK {P : xP} {F : xF} {z : Nat} {b : Nat} {cm : cmT} {M : mcS} {A : aS} (hM : xMC F (cm) (b) (M)) (hA : M.1 = A) : xM P xy_MessageCoder_draftLength [.ref b] F (z) 0 0 (fun r9 F9 z9 => r9 = some (.int (nI (A.2.1.1))) ∧ F9 = F ∧ z9 = z) := by
  subst hA
  have h := c_MessageCoder_draftLength (P := P) (z := z) (hM := hM)  
  have h2 := h
  exact h2
set_option maxHeartbeats 1000000 in
theorem c_MessageCoder_draftBitsK {P : xP} {F : xF} {z : Nat} {b : Nat} {cm : cmT} {M : mcS} {A : aS} (hM : xMC F (cm) (b) (M)) (hA : M.1 = A) : xM P xy_MessageCoder_draftBits [.ref b] F (z) 0 0 (fun r9 F9 z9 => r9 = some (.int (nI (bitsN (hLen A.1) A.2.1.2 A.2.1.1))) ∧ F9 = F ∧ z9 = z) := by
  subst hA
  have h := c_MessageCoder_draftBits (P := P) (z := z) (hM := hM)  
  have h2 := h
  exact h2
set_option maxHeartbeats 1000000 in
theorem c_MessageCoder_messageCountK {P : xP} {F : xF} {z : Nat} {b : Nat} {cm : cmT} {M : mcS} {A : aS} (hM : xMC F (cm) (b) (M)) (hA : M.1 = A) : xM P xy_MessageCoder_messageCount [.ref b] F (z) 0 0 (fun r9 F9 z9 => r9 = some (.int (nI (A.2.2.1.1))) ∧ F9 = F ∧ z9 = z) := by
  subst hA
  have h := c_MessageCoder_messageCount (P := P) (z := z) (hM := hM)  
  have h2 := h
  exact h2
set_option maxHeartbeats 1000000 in
theorem c_MessageCoder_frameLengthK {P : xP} {F : xF} {z : Nat} {b : Nat} {cm : cmT} {M : mcS} {A : aS} (hM : xMC F (cm) (b) (M)) (hA : M.1 = A) : xM P xy_MessageCoder_frameLength [.ref b] F (z) 0 0 (fun r9 F9 z9 => r9 = some (.int (nI (A.2.2.2.1.1 * 7))) ∧ F9 = F ∧ z9 = z) := by
  subst hA
  have h := c_MessageCoder_frameLength (P := P) (z := z) (hM := hM)  
  have h2 := h
  exact h2
set_option maxHeartbeats 1000000 in
theorem c_MessageCoder_damagedBlocksK {P : xP} {F : xF} {z : Nat} {b : Nat} {cm : cmT} {M : mcS} {A : aS} (hM : xMC F (cm) (b) (M)) (hA : M.1 = A) : xM P xy_MessageCoder_damagedBlocks [.ref b] F (z) 0 0 (fun r9 F9 z9 => r9 = some (.int (nI (dmgN A.2.2.2.1.2.1 A.2.2.2.1.1))) ∧ F9 = F ∧ z9 = z) := by
  subst hA
  have h := c_MessageCoder_damagedBlocks (P := P) (z := z) (hM := hM)  
  have h2 := h
  exact h2
set_option maxHeartbeats 1000000 in
theorem c_MessageCoder_receivedLengthK {P : xP} {F : xF} {z : Nat} {b : Nat} {cm : cmT} {M : mcS} {A : aS} (hM : xMC F (cm) (b) (M)) (hA : M.1 = A) : xM P xy_MessageCoder_receivedLength [.ref b] F (z) 0 0 (fun r9 F9 z9 => r9 = some (.int (nI (A.2.2.2.2.1.1))) ∧ F9 = F ∧ z9 = z) := by
  subst hA
  have h := c_MessageCoder_receivedLength (P := P) (z := z) (hM := hM)  
  have h2 := h
  exact h2
set_option maxHeartbeats 1000000 in
theorem c_MessageCoder_sentTotalK {P : xP} {F : xF} {z : Nat} {b : Nat} {cm : cmT} {M : mcS} {A : aS} (hM : xMC F (cm) (b) (M)) (hA : M.1 = A) : xM P xy_MessageCoder_sentTotal [.ref b] F (z) 0 0 (fun r9 F9 z9 => r9 = some (.int (nI (A.2.2.2.2.2.1))) ∧ F9 = F ∧ z9 = z) := by
  subst hA
  have h := c_MessageCoder_sentTotal (P := P) (z := z) (hM := hM)  
  have h2 := h
  exact h2
set_option maxHeartbeats 1000000 in
theorem c_MessageCoder_receivedTotalK {P : xP} {F : xF} {z : Nat} {b : Nat} {cm : cmT} {M : mcS} {A : aS} (hM : xMC F (cm) (b) (M)) (hA : M.1 = A) : xM P xy_MessageCoder_receivedTotal [.ref b] F (z) 0 0 (fun r9 F9 z9 => r9 = some (.int (nI (A.2.2.2.2.2.2.1))) ∧ F9 = F ∧ z9 = z) := by
  subst hA
  have h := c_MessageCoder_receivedTotal (P := P) (z := z) (hM := hM)  
  have h2 := h
  exact h2
set_option maxHeartbeats 1000000 in
theorem c_MessageCoder_failedTotalK {P : xP} {F : xF} {z : Nat} {b : Nat} {cm : cmT} {M : mcS} {A : aS} (hM : xMC F (cm) (b) (M)) (hA : M.1 = A) : xM P xy_MessageCoder_failedTotal [.ref b] F (z) 0 0 (fun r9 F9 z9 => r9 = some (.int (nI (A.2.2.2.2.2.2.2.2))) ∧ F9 = F ∧ z9 = z) := by
  subst hA
  have h := c_MessageCoder_failedTotal (P := P) (z := z) (hM := hM)  
  have h2 := h
  exact h2
set_option maxHeartbeats 1000000 in
theorem c_MessageCoder_costByRangesK {P : xP} {F : xF} {z : Nat} {b : Nat} {cm : cmT} {M : mcS} {A : aS} (hM : xMC F (cm) (b) (M)) (hA : M.1 = A) : xM P xy_MessageCoder_costByRanges [.ref b] F (z) 0 0 (fun r9 F9 z9 => r9 = some (.int (nI (hSum A.1))) ∧ z9 = z ∧ xMC F9 (cm) (b) (M) ∧ (∀ a9 : Nat, (a9 < b ∨ b + 566 ≤ a9) → F9 a9 = F a9)) := by
  subst hA
  have h := c_MessageCoder_costByRanges (P := P) (z := z) (hM := hM)  
  have h2 := h
  exact xM_post h2 (fun r F1 z1 hp => ⟨hp.1, hp.2.1, hp.2.2.1, hp.2.2.2⟩)
set_option maxHeartbeats 1000000 in
theorem c_MessageCoder_hasFrameK {P : xP} {F : xF} {z : Nat} {b : Nat} {cm : cmT} {M : mcS} {A : aS} (hM : xMC F (cm) (b) (M)) (hA : M.1 = A) : xM P xy_MessageCoder_hasFrame [.ref b] F (z) 0 0 (fun r9 F9 z9 => r9 = some (.int (xb (0 < A.2.2.2.1.1))) ∧ F9 = F ∧ z9 = z) := by
  subst hA
  have h := c_MessageCoder_hasFrame (P := P) (z := z) (hM := hM)  
  have h2 := h
  exact h2
set_option maxHeartbeats 1000000 in
theorem c_MessageCoder_isConsistentK {P : xP} {F : xF} {z : Nat} {b : Nat} {cm : cmT} {M : mcS} {A : aS} {rt : Nat} (hM : xMC F (cm) (b) (M)) (hA : M.1 = A) (hSR : xSR P rt) : xM P xy_MessageCoder_isConsistent [.ref b] F (z) 0 0 (fun r9 F9 z9 => r9 = some (.int (nI 1)) ∧ z9 = z ∧ xMC F9 (cm) (b) (M) ∧ (∀ a9 : Nat, (a9 < b ∨ b + 566 ≤ a9) → F9 a9 = F a9)) := by
  subst hA
  have h := c_MessageCoder_isConsistent (P := P) (z := z) (hM := hM)  (hSR := hSR)
  have h2 := h
  exact xM_post h2 (fun r F1 z1 hp => ⟨hp.1, hp.2.1, hp.2.2.1, hp.2.2.2⟩)
set_option maxHeartbeats 1000000 in
theorem c_MessageCoder_meanLengthK {P : xP} {F : xF} {z : Nat} {b : Nat} {cm : cmT} {M : mcS} {A : aS} (hM : xMC F (cm) (b) (M)) (hA : M.1 = A) (hs1 : 0 < sumN A.1 8) : xM P xy_MessageCoder_meanLength [.ref b] F (z) 0 0 (fun r9 F9 z9 => r9 = some (.double (FP.ddiv (FP.i2d (nI (hSum A.1))) (FP.i2d (nI (sumN A.1 8))))) ∧ F9 = F ∧ z9 = z) := by
  subst hA
  have h := c_MessageCoder_meanLength (P := P) (z := z) (hM := hM)  (hs1 := hs1)
  have h2 := h
  exact h2
set_option maxHeartbeats 1000000 in
theorem c_MessageCoder_failedShareK {P : xP} {F : xF} {z : Nat} {b : Nat} {cm : cmT} {M : mcS} {A : aS} (hM : xMC F (cm) (b) (M)) (hA : M.1 = A) (hZx : xZx P) (hg0 : A.2.2.2.2.2.2.1 < 1000) (hf0 : A.2.2.2.2.2.2.2.2 < 1000) (n0 : 0 < A.2.2.2.2.2.2.1) : xM P xy_MessageCoder_failedShare [.ref b] F (z) 1 6 (fun r9 F9 z9 => r9 = some (.float (FP.fdiv (FP.i2f (nI (A.2.2.2.2.2.2.2.2))) (FP.i2f (nI (A.2.2.2.2.2.2.1))))) ∧ F9 = F ∧ z9 = z) := by
  subst hA
  have h := c_MessageCoder_failedShare (P := P) (z := z) (hM := hM)  (hZx := hZx) (hg0 := hg0) (hf0 := hf0)
  have h2 := xMx_M h (fun E9 F9 z9 hx => by
    rcases hx with ⟨-, -, h9⟩
    · exact absurd h9 (by omega)
    )
  exact xM_post h2 (fun r F1 z1 hp => ⟨hp.1, hp.2.1, hp.2.2.1⟩)
