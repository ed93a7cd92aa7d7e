set_option maxHeartbeats 4000000 in
set_option maxRecDepth 20000 in
theorem l_codes {P : xP} {Θ : xT} {fo : Nat} {o1 : Nat} {o2 : Nat} {rt : Nat} {cm : cmT} {sm : Nat} {a : Nat} {N : Nat} {xs : Nat → Int32} {qe : Nat} {qq : Nat} {qx : Nat} {qc : Nat} (hG : xGl P Θ fo o1 o2 rt cm sm a N xs qe qq qx qc) {b : Nat} {M : mcS} {A : aS} {q : Nat} {T : Nat} {F : xF} {z k n : Nat} (hM : xMC F (cm) (b) (M)) (hA : M.1 = A) (hB : pBd M q) (hz : b + 566 ≤ z) (hk : k + 2000 ≤ 644766) (hn : n + 300000 ≤ 7153085) (kk : ∀ (M1 : mcS) (F1 : xF) (z1 : Nat), xMC F1 cm b M1 → xCs F1 z z1 A.1 8 → M1.1 = A → pBd M1 q → z < z1 → xX P Θ 228 [some (.ref a), some (.ref b), some (.int (nI (T))), some (.int (nI (sumN (fun j => A.1 j * hLen A.1 j) 8))), some (.int (nI (sumN A.1 8))), some (.int (nI (maxN (hLen A.1) 8))), some (.int (nI (A.2.2.1.1))), some (.ref z), none, none, none, none, none, none, none, none, none, none, none, none, none, none] [] F1 z1 (k + 1000) (n + 200000)) : xX P Θ 20 [some (.ref a), some (.ref b), some (.int (nI (T))), none, none, none, none, none, none, none, none, none, none, none, none, none, none, none, none, none, none, none] [] F (z) k n := by
  obtain ⟨hC, hZx, hNx, hJ, hD, hSR, hCM, hSM, hS, hE, hEo, hQ, hQo, hX, hXo, hK, hKo⟩ := hG
  refine x_iconst hC d_Law_law_20 (v := nI 0) (by decide) ?_
  refine x_istore_n hC d_Law_law_21 rfl (Nat.le_of_ble_eq_true rfl) (L1 := [some (.ref a), some (.ref b), some (.int (nI (T))), some (.int (nI 0)), none, none, none, none, none, none, none, none, none, none, none, none, none, none, none, none, none, none]) rfl ?_
  refine x_iconst hC d_Law_law_22 (v := nI 0) (by decide) ?_
  refine x_istore hC d_Law_law_23 (Nat.le_of_ble_eq_true rfl) (L1 := [some (.ref a), some (.ref b), some (.int (nI (T))), some (.int (nI 0)), some (.int (nI 0)), none, none, none, none, none, none, none, none, none, none, none, none, none, none, none, none, none]) rfl ?_
  refine x_iconst hC d_Law_law_25 (v := nI 0) (by decide) ?_
  refine x_istore hC d_Law_law_26 (Nat.le_of_ble_eq_true rfl) (L1 := [some (.ref a), some (.ref b), some (.int (nI (T))), some (.int (nI 0)), some (.int (nI 0)), some (.int (nI 0)), none, none, none, none, none, none, none, none, none, none, none, none, none, none, none, none]) rfl ?_
  refine x_aload_n hC d_Law_law_28 rfl rfl ?_
  obtain ⟨b0, -⟩ := id hM
  refine x_callV hC kv_Law_95 (c_MessageCoder_messageCountK (hM := hM) (hA := hA) (A := A)) b0 rfl rfl (by decide) rfl rfl rfl (Nat.le_of_ble_eq_true rfl) ⟨by omega, by omega⟩ d_Law_law_29 (fun r9 F9 z9 hp9 => ?_)
  obtain ⟨rfl, h9b, h9c⟩ := hp9
  rw [h9b, h9c]
  clear h9b h9c F9 z9
  refine x_istore hC d_Law_law_32 (Nat.le_of_ble_eq_true rfl) (L1 := [some (.ref a), some (.ref b), some (.int (nI (T))), some (.int (nI 0)), some (.int (nI 0)), some (.int (nI 0)), some (.int (nI (A.2.2.1.1))), none, none, none, none, none, none, none, none, none, none, none, none, none, none, none]) rfl ?_
  refine x_bipush hC d_Law_law_34 (v := nI 8) (by decide) ?_
  refine x_anewa hC (t := 3) rfl (by decide) (x_in (x_of (xtb_7 (List.mem_of_getElem? (i := 118) (by decide +kernel)))) (by decide +kernel)) (x_inN (xtb_7 (List.mem_of_getElem? (i := 119) (by decide +kernel))) (by decide +kernel)) rfl (by omega) (by decide) ⟨by omega, by omega⟩ d_Law_law_36 ?_
  generalize e1 : xup F (z) (.inr (3, 8, (fun _ => .null))) = F1
  have hM : xMC F1 (cm) (b) (M) := xMC_fr hM (fun a9 q1 q2 => by rw [← e1]; exact xup_ne (by omega))
  have hz1 : F1 (z) = some (.inr (3, 8, (fun _ => .null))) := by rw [← e1]; exact xup_eq
  refine x_astore hC d_Law_law_39 (Nat.le_of_ble_eq_true rfl) (L1 := [some (.ref a), some (.ref b), some (.int (nI (T))), some (.int (nI 0)), some (.int (nI 0)), some (.int (nI 0)), some (.int (nI (A.2.2.1.1))), some (.ref z), none, none, none, none, none, none, none, none, none, none, none, none, none, none]) rfl ?_
  have hcs : xCs F1 z (z + 1) A.1 0 := ⟨by omega, _, fun _ => 0, hz1, fun j hj => absurd hj (Nat.not_lt_zero j)⟩
  refine x_iconst hC d_Law_law_41 (v := nI 0) (by decide) ?_
  refine x_istore hC d_Law_law_42 (Nat.le_of_ble_eq_true rfl) (L1 := [some (.ref a), some (.ref b), some (.int (nI (T))), some (.int (nI 0)), some (.int (nI 0)), some (.int (nI 0)), some (.int (nI (A.2.2.1.1))), some (.ref z), some (.int (nI 0)), none, none, none, none, none, none, none, none, none, none, none, none, none]) rfl ?_
  have loop_44 : ∀ (m9 : Nat) (Fh44 : xF) (i : Nat) (M1 : mcS) (z1 : Nat), (xMC Fh44 (cm) (b) (M1)) → (xCs Fh44 (z) (z1) (A.1) (i)) → (i ≤ 8) → (M1.1 = A) → (pBd M1 q) → (z + 1 ≤ z1) → (8 - i < m9) → xX P Θ 44 [some (.ref a), some (.ref b), some (.int (nI (T))), some (.int (nI (sumN (fun j => A.1 j * hLen A.1 j) i))), some (.int (nI (sumN A.1 i))), some (.int (nI (maxN (hLen A.1) i))), some (.int (nI (A.2.2.1.1))), some (.ref z), some (.int (nI (i))), none, none, none, none, none, none, none, none, none, none, none, none, none] [] Fh44 (z1) (k + 10 + 100 * i) (n + 100 + 22000 * i) := by
    intro m9
    induction m9 with
    | zero => intros; omega
    | succ m9 ih_44 =>
      intro Fh44 i M1 z1 hM hcs hi hA hB hz1 hm_44
      refine x_iload hC d_Law_law_44 rfl ?_
      refine x_bipush hC d_Law_law_46 (v := nI 8) (by decide) ?_
      refine x_icmpN_ge hC d_Law_law_48 (tgt := 228) (by decide) (by omega) (by omega) (fun c_48 => ?_) (fun c_48 => ?_)
      · skip
        refine x_widen (k1 := k + 1000) (n1 := n + 200000) (by omega) (by omega) ?_
        refine x_forget (L1 := [some (.ref a), some (.ref b), some (.int (nI (T))), some (.int (nI (sumN (fun j => A.1 j * hLen A.1 j) i))), some (.int (nI (sumN A.1 i))), some (.int (nI (maxN (hLen A.1) i))), some (.int (nI (A.2.2.1.1))), some (.ref z), none, none, none, none, none, none, none, none, none, none, none, none, none, none]) ⟨Or.inr rfl, ⟨Or.inr rfl, ⟨Or.inr rfl, ⟨Or.inr rfl, ⟨Or.inr rfl, ⟨Or.inr rfl, ⟨Or.inr rfl, ⟨Or.inr rfl, ⟨Or.inl rfl, ⟨Or.inl rfl, ⟨Or.inl rfl, ⟨Or.inl rfl, ⟨Or.inl rfl, ⟨Or.inl rfl, ⟨Or.inl rfl, ⟨Or.inl rfl, ⟨Or.inl rfl, ⟨Or.inl rfl, ⟨Or.inl rfl, ⟨Or.inl rfl, ⟨Or.inl rfl, ⟨Or.inl rfl, trivial⟩⟩⟩⟩⟩⟩⟩⟩⟩⟩⟩⟩⟩⟩⟩⟩⟩⟩⟩⟩⟩⟩ ?_
        obtain rfl : i = 8 := by omega
        exact kk M1 Fh44 z1 hM hcs hA hB (by omega)
      · skip
        obtain ⟨l, hl⟩ : ∃ l, hLen A.1 i = l := ⟨_, rfl⟩
        obtain ⟨v, hv⟩ : ∃ v, hVal (hLen A.1) i = v := ⟨_, rfl⟩
        have hl1 : 1 ≤ l := by rw [← hl]; exact hLen_1 A.1 (by omega)
        have hl7 : l ≤ 7 := by rw [← hl]; exact hLen_7 A.1 (by omega)
        have hvl : v < 2 ^ l := by rw [← hl, ← hv]; exact val_lt (fun j hj => hLen_7 A.1 hj) (hKraft A.1) (by omega)
        have hv8 : v < 128 := Nat.lt_of_lt_of_le hvl (Nat.pow_le_pow_right (by omega) (show l ≤ 7 by omega))
        have hmx : maxN (hLen A.1) i ≤ 7 := maxN_le i (fun j hj => hLen_7 A.1 (by omega))
        refine x_iload hC d_Law_law_51 rfl ?_
        refine x_callS hC ks_Law_75 (c_Law_symbol (hv := by omega)) (by decide) rfl rfl rfl (Nat.le_of_ble_eq_true rfl) ⟨by omega, by omega⟩ d_Law_law_53 (fun r9 F9 z9 hp9 => ?_)
        obtain ⟨rfl, h9b, h9c⟩ := hp9
        rw [h9b, h9c]
        clear h9b h9c F9 z9
        refine x_top (v := (nI (97 + i))) (by rw [Nat.mod_eq_of_lt (by omega)]) ?_
        refine x_istore hC d_Law_law_56 (Nat.le_of_ble_eq_true rfl) (L1 := [some (.ref a), some (.ref b), some (.int (nI (T))), some (.int (nI (sumN (fun j => A.1 j * hLen A.1 j) i))), some (.int (nI (sumN A.1 i))), some (.int (nI (maxN (hLen A.1) i))), some (.int (nI (A.2.2.1.1))), some (.ref z), some (.int (nI (i))), some (.int (nI (97 + i))), none, none, none, none, none, none, none, none, none, none, none, none]) rfl ?_
        refine x_aload_n hC d_Law_law_58 rfl rfl ?_
        refine x_iload hC d_Law_law_59 rfl ?_
        obtain ⟨b0, -⟩ := id hM
        refine x_callV hC kv_Law_135 (c_MessageCoder_codeLengthK (hM := hM) (hA := hA) (hZx := hZx) (n0 := by omega) (A := A)) b0 rfl rfl (by decide) rfl rfl rfl (Nat.le_of_ble_eq_true rfl) ⟨by omega, by omega⟩ d_Law_law_61 (fun r9 F9 z9 hp9 => ?_)
        obtain ⟨rfl, h9b, h9c⟩ := hp9
        rw [h9b, h9c]
        clear h9b h9c F9 z9
        refine x_top (v := (nI (l))) (by rw [Nat.add_sub_cancel_left, hl]) ?_
        refine x_istore hC d_Law_law_64 (Nat.le_of_ble_eq_true rfl) (L1 := [some (.ref a), some (.ref b), some (.int (nI (T))), some (.int (nI (sumN (fun j => A.1 j * hLen A.1 j) i))), some (.int (nI (sumN A.1 i))), some (.int (nI (maxN (hLen A.1) i))), some (.int (nI (A.2.2.1.1))), some (.ref z), some (.int (nI (i))), some (.int (nI (97 + i))), some (.int (nI (l))), none, none, none, none, none, none, none, none, none, none, none]) rfl ?_
        refine x_aload_n hC d_Law_law_66 rfl rfl ?_
        refine x_iload hC d_Law_law_67 rfl ?_
        obtain ⟨b0, -⟩ := id hM
        refine x_callV hC kv_Law_138 (c_MessageCoder_codeValueK (hM := hM) (hA := hA) (hZx := hZx) (n0 := by omega) (A := A)) b0 rfl rfl (by decide) rfl rfl rfl (Nat.le_of_ble_eq_true rfl) ⟨by omega, by omega⟩ d_Law_law_69 (fun r9 F9 z9 hp9 => ?_)
        obtain ⟨rfl, h9b, h9c⟩ := hp9
        rw [h9b, h9c]
        clear h9b h9c F9 z9
        refine x_top (v := (nI (v))) (by rw [Nat.add_sub_cancel_left, hv]) ?_
        refine x_istore hC d_Law_law_72 (Nat.le_of_ble_eq_true rfl) (L1 := [some (.ref a), some (.ref b), some (.int (nI (T))), some (.int (nI (sumN (fun j => A.1 j * hLen A.1 j) i))), some (.int (nI (sumN A.1 i))), some (.int (nI (maxN (hLen A.1) i))), some (.int (nI (A.2.2.1.1))), some (.ref z), some (.int (nI (i))), some (.int (nI (97 + i))), some (.int (nI (l))), some (.int (nI (v))), none, none, none, none, none, none, none, none, none, none]) rfl ?_
        refine x_ldcS hC hE d_Law_law_74 ?_
        refine x_astore hC d_Law_law_76 (Nat.le_of_ble_eq_true rfl) (L1 := [some (.ref a), some (.ref b), some (.int (nI (T))), some (.int (nI (sumN (fun j => A.1 j * hLen A.1 j) i))), some (.int (nI (sumN A.1 i))), some (.int (nI (maxN (hLen A.1) i))), some (.int (nI (A.2.2.1.1))), some (.ref z), some (.int (nI (i))), some (.int (nI (97 + i))), some (.int (nI (l))), some (.int (nI (v))), some (.ref qe), none, none, none, none, none, none, none, none, none]) rfl ?_
        have hcv : xTv P Fh44 (z1) (z1) (qe) (cdp l v (l - l)) := Or.inr ⟨by rw [Nat.sub_self]; exact hEo, by rw [Nat.sub_self]; rfl⟩
        refine x_iload hC d_Law_law_78 rfl ?_
        refine x_iconst hC d_Law_law_80 (v := nI 1) (by decide) ?_
        refine x_isub hC d_Law_law_81 (v := (nI l - nI 1)) rfl ?_
        refine x_istore hC d_Law_law_82 (Nat.le_of_ble_eq_true rfl) (L1 := [some (.ref a), some (.ref b), some (.int (nI (T))), some (.int (nI (sumN (fun j => A.1 j * hLen A.1 j) i))), some (.int (nI (sumN A.1 i))), some (.int (nI (maxN (hLen A.1) i))), some (.int (nI (A.2.2.1.1))), some (.ref z), some (.int (nI (i))), some (.int (nI (97 + i))), some (.int (nI (l))), some (.int (nI (v))), some (.ref qe), some (.int (nI l - nI 1)), none, none, none, none, none, none, none, none]) rfl ?_
        have loop_84 : ∀ (m9 : Nat) (Fh84 : xF) (t : Nat) (s12 : Nat) (z2 : Nat), (xMC Fh84 (cm) (b) (M1)) → (xCs Fh84 (z) (z1) (A.1) (i)) → (xTv P Fh84 (z1) (z2) (s12) (cdp l v (l - t))) → (t ≤ l) → (z1 ≤ z2) → (t < m9) → xX P Θ 84 [some (.ref a), some (.ref b), some (.int (nI (T))), some (.int (nI (sumN (fun j => A.1 j * hLen A.1 j) i))), some (.int (nI (sumN A.1 i))), some (.int (nI (maxN (hLen A.1) i))), some (.int (nI (A.2.2.1.1))), some (.ref z), some (.int (nI (i))), some (.int (nI (97 + i))), some (.int (nI (l))), some (.int (nI (v))), some (.ref s12), some (.int (nI t - nI 1)), none, none, none, none, none, none, none, none] [] Fh84 (z2) (k + 20 + 100 * i + 6 * (l - t)) (n + 200 + 22000 * i + 2480 * (l - t)) := by
          intro m9
          induction m9 with
          | zero => intros; omega
          | succ m9 ih_84 =>
            intro Fh84 t s12 z2 hM hcs hcv ht hz2 hm_84
            refine x_iload hC d_Law_law_84 rfl ?_
            refine x_if_lt hC d_Law_law_86 (tgt := 122) (by decide) (fun c_86 => ?_) (fun c_86 => ?_)
            · skip
              have c9 := (x_sublt (by omega) (by omega)).mp c_86
              refine x_aload hC d_Law_law_122 rfl ?_
              refine x_iload hC d_Law_law_124 rfl ?_
              refine x_aload hC d_Law_law_126 rfl ?_
              refine x_forget (L1 := [some (.ref a), some (.ref b), some (.int (nI (T))), some (.int (nI (sumN (fun j => A.1 j * hLen A.1 j) i))), some (.int (nI (sumN A.1 i))), some (.int (nI (maxN (hLen A.1) i))), some (.int (nI (A.2.2.1.1))), some (.ref z), some (.int (nI (i))), some (.int (nI (97 + i))), some (.int (nI (l))), some (.int (nI (v))), some (.ref s12), none, none, none, none, none, none, none, none, none]) ⟨Or.inr rfl, ⟨Or.inr rfl, ⟨Or.inr rfl, ⟨Or.inr rfl, ⟨Or.inr rfl, ⟨Or.inr rfl, ⟨Or.inr rfl, ⟨Or.inr rfl, ⟨Or.inr rfl, ⟨Or.inr rfl, ⟨Or.inr rfl, ⟨Or.inr rfl, ⟨Or.inr rfl, ⟨Or.inl rfl, ⟨Or.inl rfl, ⟨Or.inl rfl, ⟨Or.inl rfl, ⟨Or.inl rfl, ⟨Or.inl rfl, ⟨Or.inl rfl, ⟨Or.inl rfl, ⟨Or.inl rfl, trivial⟩⟩⟩⟩⟩⟩⟩⟩⟩⟩⟩⟩⟩⟩⟩⟩⟩⟩⟩⟩⟩⟩ ?_
              obtain rfl : t = 0 := by omega
              rw [Nat.sub_zero, cdp_all] at hcv
              obtain ⟨hct, hc1, hc2⟩ := xTv_new hcv (by rw [cdl_len]; omega)
              refine x_codePut hC (ce2 := z2) hcs (by omega) (by rw [hl, hv]; exact hct) (by have := hcs.1; omega) d_Law_law_128 (fun F2 hcs hag9 => ?_)
              have hM : xMC F2 cm b (M1) := xMC_fr hM (fun a9 q1 q2 => hag9 a9 (by omega))
              have hct : xTs F2 (s12) (cdl l v) := xTs_fr hct (fun a9 q1 q2 => hag9 a9 (by omega))
              refine x_iload hC d_Law_law_129 rfl ?_
              refine x_iconst hC d_Law_law_131 (v := nI 1) (by decide) ?_
              refine x_icmpN_lt hC d_Law_law_132 (tgt := 188) (by decide) (by omega) (by omega) (fun c_132 => ?_) (fun c_132 => ?_)
              · skip
                exact absurd c_132 (by omega)
              · skip
                refine x_iload hC d_Law_law_135 rfl ?_
                refine x_bipush hC d_Law_law_137 (v := nI 7) (by decide) ?_
                refine x_icmpN_gt hC d_Law_law_139 (tgt := 188) (by decide) (by omega) (by omega) (fun c_139 => ?_) (fun c_139 => ?_)
                · skip
                  exact absurd c_139 (by omega)
                · skip
                  refine x_iload hC d_Law_law_142 rfl ?_
                  refine x_iload hC d_Law_law_144 rfl ?_
                  refine x_ishr hC d_Law_law_146 (v := (nI (v / 2 ^ l))) (x_shrN l (by omega) (by omega) rfl) ?_
                  have hv0 : v / 2 ^ l = 0 := Nat.div_eq_of_lt hvl
                  refine x_ifN_ne hC d_Law_law_147 (tgt := 188) (by decide) (by omega) (fun c_147 => ?_) (fun c_147 => ?_)
                  · skip
                    exact absurd c_147 (by omega)
                  · skip
                    refine x_aload_n hC d_Law_law_150 rfl rfl ?_
                    refine x_aload_n hC d_Law_law_151 rfl rfl ?_
                    refine x_iload hC d_Law_law_152 rfl ?_
                    obtain ⟨b0, -⟩ := id hM
                    refine x_callV hC kv_Law_157 (c_MessageCoder_formatCodeK (hM := hM) (hA := hA) (hZx := hZx) (n0 := by omega) (A := A)) b0 rfl rfl (by decide) rfl rfl rfl (Nat.le_of_ble_eq_true rfl) ⟨by omega, by omega⟩ d_Law_law_154 (fun r9 F9 z9 hp9 => ?_)
                    obtain ⟨rfl, h9c, j0, hag9⟩ := hp9
                    rw [h9c]
                    clear h9c z9
                    generalize F9 = F3 at *
                    have hcs : xCs F3 (z) (z2) (A.1) (i + 1) := xCs_fr hcs (fun a9 q1 q2 => hag9 a9 (by omega))
                    have hct : xTs F3 (s12) (cdl l v) := xTs_fr hct (fun a9 q1 q2 => hag9 a9 (by omega))
                    have hM : xMC F3 (cm) (b) (setL M1 (2 + hLen A.1 ((97 + i) - 97)) (fmC (97 + i) (hLen A.1 ((97 + i) - 97)) (hVal (hLen A.1) ((97 + i) - 97)))) := j0
                    have hg_154 := hag9
                    clear hag9
                    refine x_new hC (fs := [.null, .int (nI 0), .int (nI 0), .int (nI 0)]) kn_Law_143 ⟨by omega, by omega⟩ d_Law_law_157 ?_
                    generalize e4 : xup F3 (z2) (.inl (10, [.null, .int (nI 0), .int (nI 0), .int (nI 0)])) = F4
                    have hcs : xCs F4 (z) (z2) (A.1) (i + 1) := xCs_fr hcs (fun a9 q1 q2 => by rw [← e4]; exact xup_ne (by omega))
                    have hct : xTs F4 (s12) (cdl l v) := xTs_fr hct (fun a9 q1 q2 => by rw [← e4]; exact xup_ne (by omega))
                    have hM : xMC F4 (cm) (b) (setL M1 (2 + hLen A.1 ((97 + i) - 97)) (fmC (97 + i) (hLen A.1 ((97 + i) - 97)) (hVal (hLen A.1) ((97 + i) - 97)))) := xMC_fr hM (fun a9 q1 q2 => by rw [← e4]; exact xup_ne (by omega))
                    have hb : F4 (z2) = some (.inl (10, [.null, .int (nI 0), .int (nI 0), .int (nI 0)])) := by rw [← e4]; exact xup_eq
                    refine x_dup hC d_Law_law_160 rfl ?_
                    refine x_callI hC ki_Law_145 rfl (c_StringBuilder_initL (hb := hb) (hJ := hJ) (hbz := by omega) (fo := fo)) (by decide) rfl rfl rfl (Nat.le_of_ble_eq_true rfl) ⟨by omega, by omega⟩ d_Law_law_161 (fun r9 F9 z9 hp9 => ?_)
                    obtain ⟨rfl, h9c, j0, hag9⟩ := hp9
                    rw [h9c]
                    clear h9c z9
                    generalize F9 = F5 at *
                    have hcs : xCs F5 (z) (z2) (A.1) (i + 1) := xCs_fr hcs (fun a9 q1 q2 => hag9 a9 (by omega))
                    have hct : xTs F5 (s12) (cdl l v) := xTs_fr hct (fun a9 q1 q2 => hag9 a9 (by omega))
                    have hM : xMC F5 (cm) (b) (setL M1 (2 + hLen A.1 ((97 + i) - 97)) (fmC (97 + i) (hLen A.1 ((97 + i) - 97)) (hVal (hLen A.1) ((97 + i) - 97)))) := xMC_fr hM (fun a9 q1 q2 => hag9 a9 (by omega))
                    have hb : xSB F5 (z2) ((z2 + 1) + 1) (z2) ([]) := j0
                    have hg_161 := hag9
                    clear hag9
                    refine x_iload hC d_Law_law_164 rfl ?_
                    obtain ⟨rv, rK, rg, rr, rb, -⟩ := id hb
                    refine x_callV hC kv_Law_160 (c_StringBuilder_append_CL (hb := hb) (hJ := hJ) (hx := by omega) (hl := by simp only [List.length_append, List.length_nil, List.length_cons, cdp_len, cdl_len, dgl_len]; omega) (fo := fo)) rb rfl rfl (by decide) rfl rfl rfl (Nat.le_of_ble_eq_true rfl) ⟨by omega, by omega⟩ d_Law_law_166 (fun r9 F9 z9 hp9 => ?_)
                    obtain ⟨zz_166, rfl, h9c, j0, pw_166, hag9⟩ := hp9
                    rw [h9c]
                    clear h9c z9
                    generalize F9 = F6 at *
                    have hcs : xCs F6 (z) (z2) (A.1) (i + 1) := xCs_fr hcs (fun a9 q1 q2 => hag9 a9 (by omega))
                    have hct : xTs F6 (s12) (cdl l v) := xTs_fr hct (fun a9 q1 q2 => hag9 a9 (by omega))
                    have hM : xMC F6 (cm) (b) (setL M1 (2 + hLen A.1 ((97 + i) - 97)) (fmC (97 + i) (hLen A.1 ((97 + i) - 97)) (hVal (hLen A.1) ((97 + i) - 97)))) := xMC_fr hM (fun a9 q1 q2 => hag9 a9 (by omega))
                    have hb : xSB F6 (z2) (zz_166) (z2) (([]) ++ [(97 + i)]) := j0
                    have hg_166 := hag9
                    clear hag9
                    refine x_ldcS hC hQ d_Law_law_169 ?_
                    obtain ⟨rv, rK, rg, rr, rb, -⟩ := id hb
                    refine x_callV hC kv_Law_146 (c_StringBuilder_append_StringLO (hb := hb) (hJ := hJ) (hO := hQo) (hl := by simp only [List.length_append, List.length_nil, List.length_cons, cdp_len, cdl_len, dgl_len]; omega) (fo := fo) (m := [61])) rb rfl rfl (by decide) rfl rfl rfl (Nat.le_of_ble_eq_true rfl) ⟨by omega, by omega⟩ d_Law_law_171 (fun r9 F9 z9 hp9 => ?_)
                    obtain ⟨zz_171, rfl, h9c, j0, pw_171, hag9⟩ := hp9
                    rw [h9c]
                    clear h9c z9
                    generalize F9 = F7 at *
                    have hcs : xCs F7 (z) (z2) (A.1) (i + 1) := xCs_fr hcs (fun a9 q1 q2 => hag9 a9 (by omega))
                    have hct : xTs F7 (s12) (cdl l v) := xTs_fr hct (fun a9 q1 q2 => hag9 a9 (by omega))
                    have hM : xMC F7 (cm) (b) (setL M1 (2 + hLen A.1 ((97 + i) - 97)) (fmC (97 + i) (hLen A.1 ((97 + i) - 97)) (hVal (hLen A.1) ((97 + i) - 97)))) := xMC_fr hM (fun a9 q1 q2 => hag9 a9 (by omega))
                    have hb : xSB F7 (z2) (zz_171) (z2) ((([]) ++ [(97 + i)]) ++ ([61])) := j0
                    have hg_171 := hag9
                    clear hag9
                    refine x_aload hC d_Law_law_174 rfl ?_
                    obtain ⟨rv, rK, rg, rr, rb, -⟩ := id hb
                    refine x_callV hC kv_Law_146 (c_StringBuilder_append_StringL (hb := hb) (hs := hct) (hJ := hJ) (hl := by simp only [List.length_append, List.length_nil, List.length_cons, cdp_len, cdl_len, dgl_len]; omega) (hsl := by omega) (fo := fo)) rb rfl rfl (by decide) rfl rfl rfl (Nat.le_of_ble_eq_true rfl) ⟨by omega, by omega⟩ d_Law_law_176 (fun r9 F9 z9 hp9 => ?_)
                    obtain ⟨zz_176, rfl, h9c, j0, pw_176, hag9⟩ := hp9
                    rw [h9c]
                    clear h9c z9
                    generalize F9 = F8 at *
                    have hcs : xCs F8 (z) (z2) (A.1) (i + 1) := xCs_fr hcs (fun a9 q1 q2 => hag9 a9 (by omega))
                    have hct : xTs F8 (s12) (cdl l v) := xTs_fr hct (fun a9 q1 q2 => hag9 a9 (by omega))
                    have hM : xMC F8 (cm) (b) (setL M1 (2 + hLen A.1 ((97 + i) - 97)) (fmC (97 + i) (hLen A.1 ((97 + i) - 97)) (hVal (hLen A.1) ((97 + i) - 97)))) := xMC_fr hM (fun a9 q1 q2 => hag9 a9 (by omega))
                    have hb : xSB F8 (z2) (zz_176) (z2) (((([]) ++ [(97 + i)]) ++ ([61])) ++ (cdl l v)) := j0
                    have hg_176 := hag9
                    clear hag9
                    obtain ⟨rv, rK, rg, rr, rb, -⟩ := id hb
                    refine x_callV hC kv_Law_153 (c_StringBuilder_toStringL (hb := hb) (hJ := hJ) (fo := fo)) rb rfl rfl (by decide) rfl rfl rfl (Nat.le_of_ble_eq_true rfl) ⟨by omega, by omega⟩ d_Law_law_179 (fun r9 F9 z9 hp9 => ?_)
                    obtain ⟨rfl, h9c, j0, hag9⟩ := hp9
                    rw [h9c]
                    clear h9c z9
                    generalize F9 = F9 at *
                    have hcs : xCs F9 (z) (z2) (A.1) (i + 1) := xCs_fr hcs (fun a9 q1 q2 => hag9 a9 (by omega))
                    have hct : xTs F9 (s12) (cdl l v) := xTs_fr hct (fun a9 q1 q2 => hag9 a9 (by omega))
                    have hM : xMC F9 (cm) (b) (setL M1 (2 + hLen A.1 ((97 + i) - 97)) (fmC (97 + i) (hLen A.1 ((97 + i) - 97)) (hVal (hLen A.1) ((97 + i) - 97)))) := xMC_fr hM (fun a9 q1 q2 => hag9 a9 (by omega))
                    have hs1 : xTs F9 (zz_176) ((((([]) ++ [(97 + i)]) ++ ([61])) ++ (cdl l v))) := j0
                    have hg_179 := hag9
                    clear hag9
                    refine x_callS hC ks_Law_165 (c_Law_isLine (hM := hM) (hs := hs1) (hZx := hZx) (hJ := hJ) (h1 := ⟨rfl, by rw [Nat.add_sub_cancel_left, hl]; simp only [List.length_append, List.length_nil, List.length_cons, cdl_len]; try omega, by rw [Nat.add_sub_cancel_left, hl]; omega⟩) (h2 := fun i9 hi9 => by rw [Nat.add_sub_cancel_left, hl] at hi9; show fmC (97 + i) (hLen A.1 (97 + i - 97)) (hVal (hLen A.1) (97 + i - 97)) i9 = _; rw [Nat.add_sub_cancel_left, hl, hv]; exact fmC_l hi9) (fo := fo) (sz := 2 + hLen A.1 (97 + i - 97))) (by decide) rfl rfl rfl (Nat.le_of_ble_eq_true rfl) ⟨by omega, by omega⟩ d_Law_law_182 (fun r9 F9 z9 hp9 => ?_)
                    obtain ⟨rfl, h9b, h9c⟩ := hp9
                    rw [h9b, h9c]
                    clear h9b h9c F9 z9
                    refine x_ifN_ne hC d_Law_law_185 (tgt := 190) (by decide) (by omega) (fun c_185 => ?_) (fun c_185 => ?_)
                    · skip
                      refine x_iload_n hC d_Law_law_190 rfl rfl ?_
                      refine x_aload_n hC d_Law_law_191 rfl rfl ?_
                      refine x_iload hC d_Law_law_192 rfl ?_
                      obtain ⟨b0, -⟩ := id hM
                      refine x_callV hC kv_Law_169 (c_MessageCoder_weightOfK (hM := hM) (hA := hA) (hZx := hZx) (n0 := by omega) (A := A)) b0 rfl rfl (by decide) rfl rfl rfl (Nat.le_of_ble_eq_true rfl) ⟨by omega, by omega⟩ d_Law_law_194 (fun r9 F9 z9 hp9 => ?_)
                      obtain ⟨rfl, h9b, h9c⟩ := hp9
                      rw [h9b, h9c]
                      clear h9b h9c F9 z9
                      refine x_top (v := (nI (A.1 i))) (by rw [Nat.add_sub_cancel_left]) ?_
                      refine x_iload hC d_Law_law_197 rfl ?_
                      refine x_imul hC d_Law_law_199 (v := (nI ((A.1 i) * (l)))) (pk_mul _ _) ?_
                      refine x_iadd hC d_Law_law_200 (v := (nI ((sumN (fun j => A.1 j * hLen A.1 j) i) + ((A.1 i) * (l))))) (x_addN (by omega)) ?_
                      refine x_top (v := (nI (sumN (fun j => A.1 j * hLen A.1 j) (i + 1)))) (by rw [sumN, hl]) ?_
                      refine x_istore_n hC d_Law_law_201 rfl (Nat.le_of_ble_eq_true rfl) (L1 := [some (.ref a), some (.ref b), some (.int (nI (T))), some (.int (nI (sumN (fun j => A.1 j * hLen A.1 j) (i + 1)))), some (.int (nI (sumN A.1 i))), some (.int (nI (maxN (hLen A.1) i))), some (.int (nI (A.2.2.1.1))), some (.ref z), some (.int (nI (i))), some (.int (nI (97 + i))), some (.int (nI (l))), some (.int (nI (v))), some (.ref s12), none, none, none, none, none, none, none, none, none]) rfl ?_
                      refine x_iload hC d_Law_law_202 rfl ?_
                      refine x_aload_n hC d_Law_law_204 rfl rfl ?_
                      refine x_iload hC d_Law_law_205 rfl ?_
                      obtain ⟨b0, -⟩ := id hM
                      refine x_callV hC kv_Law_169 (c_MessageCoder_weightOfK (hM := hM) (hA := hA) (hZx := hZx) (n0 := by omega) (A := A)) b0 rfl rfl (by decide) rfl rfl rfl (Nat.le_of_ble_eq_true rfl) ⟨by omega, by omega⟩ d_Law_law_207 (fun r9 F9 z9 hp9 => ?_)
                      obtain ⟨rfl, h9b, h9c⟩ := hp9
                      rw [h9b, h9c]
                      clear h9b h9c F9 z9
                      refine x_top (v := (nI (A.1 i))) (by rw [Nat.add_sub_cancel_left]) ?_
                      refine x_iadd hC d_Law_law_210 (v := (nI ((sumN A.1 i) + (A.1 i)))) (x_addN (by omega)) ?_
                      refine x_top (v := (nI (sumN A.1 (i + 1)))) (by rw [sumN]) ?_
                      refine x_istore hC d_Law_law_211 (Nat.le_of_ble_eq_true rfl) (L1 := [some (.ref a), some (.ref b), some (.int (nI (T))), some (.int (nI (sumN (fun j => A.1 j * hLen A.1 j) (i + 1)))), some (.int (nI (sumN A.1 (i + 1)))), some (.int (nI (maxN (hLen A.1) i))), some (.int (nI (A.2.2.1.1))), some (.ref z), some (.int (nI (i))), some (.int (nI (97 + i))), some (.int (nI (l))), some (.int (nI (v))), some (.ref s12), none, none, none, none, none, none, none, none, none]) rfl ?_
                      refine x_iload hC d_Law_law_213 rfl ?_
                      refine x_iload hC d_Law_law_215 rfl ?_
                      refine x_mmaxN hC km_Law_172 (by omega) (by omega) rfl (by decide) (Nat.le_of_ble_eq_true rfl) ⟨by omega, by omega⟩ d_Law_law_217 (v := maxN (hLen A.1) (i + 1)) (by rw [maxN, hl]) ?_
                      refine x_istore hC d_Law_law_220 (Nat.le_of_ble_eq_true rfl) (L1 := [some (.ref a), some (.ref b), some (.int (nI (T))), some (.int (nI (sumN (fun j => A.1 j * hLen A.1 j) (i + 1)))), some (.int (nI (sumN A.1 (i + 1)))), some (.int (nI (maxN (hLen A.1) (i + 1)))), some (.int (nI (A.2.2.1.1))), some (.ref z), some (.int (nI (i))), some (.int (nI (97 + i))), some (.int (nI (l))), some (.int (nI (v))), some (.ref s12), none, none, none, none, none, none, none, none, none]) rfl ?_
                      have hcs : xCs F9 z (zz_176 + 2) A.1 (i + 1) := xCs_up hcs (by omega)
                      refine x_iinc hC d_Law_law_222 rfl (v := (nI (i + 1))) (x_incN 1) (Nat.le_of_ble_eq_true rfl) (L1 := [some (.ref a), some (.ref b), some (.int (nI (T))), some (.int (nI (sumN (fun j => A.1 j * hLen A.1 j) (i + 1)))), some (.int (nI (sumN A.1 (i + 1)))), some (.int (nI (maxN (hLen A.1) (i + 1)))), some (.int (nI (A.2.2.1.1))), some (.ref z), some (.int (nI (i + 1))), some (.int (nI (97 + i))), some (.int (nI (l))), some (.int (nI (v))), some (.ref s12), none, none, none, none, none, none, none, none, none]) rfl ?_
                      refine x_goto hC d_Law_law_225 (tgt := 44) (by decide) ?_
                      refine x_forget (L1 := [some (.ref a), some (.ref b), some (.int (nI (T))), some (.int (nI (sumN (fun j => A.1 j * hLen A.1 j) (i + 1)))), some (.int (nI (sumN A.1 (i + 1)))), some (.int (nI (maxN (hLen A.1) (i + 1)))), some (.int (nI (A.2.2.1.1))), some (.ref z), some (.int (nI (i + 1))), none, none, none, none, none, none, none, none, none, none, none, none, none]) ⟨Or.inr rfl, ⟨Or.inr rfl, ⟨Or.inr rfl, ⟨Or.inr rfl, ⟨Or.inr rfl, ⟨Or.inr rfl, ⟨Or.inr rfl, ⟨Or.inr rfl, ⟨Or.inr rfl, ⟨Or.inl rfl, ⟨Or.inl rfl, ⟨Or.inl rfl, ⟨Or.inl rfl, ⟨Or.inl rfl, ⟨Or.inl rfl, ⟨Or.inl rfl, ⟨Or.inl rfl, ⟨Or.inl rfl, ⟨Or.inl rfl, ⟨Or.inl rfl, ⟨Or.inl rfl, ⟨Or.inl rfl, trivial⟩⟩⟩⟩⟩⟩⟩⟩⟩⟩⟩⟩⟩⟩⟩⟩⟩⟩⟩⟩⟩⟩ ?_
                      refine x_widen (k1 := k + 10 + 100 * (i + 1)) (n1 := n + 100 + 22000 * (i + 1)) (by omega) (by omega) ?_
                      exact ih_44 F9 (i + 1) (setL M1 (2 + hLen A.1 ((97 + i) - 97)) (fmC (97 + i) (hLen A.1 ((97 + i) - 97)) (hVal (hLen A.1) ((97 + i) - 97)))) (zz_176 + 2) hM hcs (by omega) (hA) (hB) (by omega) (by omega)
                    · skip
                      exact absurd c_185 (by omega)
            · skip
              have c9 : ¬ t < 1 := fun e => absurd ((x_sublt (by omega) (by omega)).mpr e) c_86
              refine x_new hC (fs := [.null, .int (nI 0), .int (nI 0), .int (nI 0)]) kn_Law_143 ⟨by omega, by omega⟩ d_Law_law_89 ?_
              generalize e10 : xup Fh84 (z2) (.inl (10, [.null, .int (nI 0), .int (nI 0), .int (nI 0)])) = F10
              have hM : xMC F10 (cm) (b) (M1) := xMC_fr hM (fun a9 q1 q2 => by rw [← e10]; exact xup_ne (by omega))
              have hcs : xCs F10 (z) (z1) (A.1) (i) := xCs_fr hcs (fun a9 q1 q2 => by rw [← e10]; exact xup_ne (by omega))
              have hcv : xTv P F10 (z1) (z2) (s12) (cdp l v (l - t)) := xTv_fr hcv (fun a9 q1 q2 => by rw [← e10]; exact xup_ne (by omega))
              have hb : F10 (z2) = some (.inl (10, [.null, .int (nI 0), .int (nI 0), .int (nI 0)])) := by rw [← e10]; exact xup_eq
              refine x_dup hC d_Law_law_92 rfl ?_
              refine x_callI hC ki_Law_145 rfl (c_StringBuilder_initL (hb := hb) (hJ := hJ) (hbz := by omega) (fo := fo)) (by decide) rfl rfl rfl (Nat.le_of_ble_eq_true rfl) ⟨by omega, by omega⟩ d_Law_law_93 (fun r9 F9 z9 hp9 => ?_)
              obtain ⟨rfl, h9c, j0, hag9⟩ := hp9
              rw [h9c]
              clear h9c z9
              generalize F9 = F11 at *
              have hM : xMC F11 (cm) (b) (M1) := xMC_fr hM (fun a9 q1 q2 => hag9 a9 (by omega))
              have hcs : xCs F11 (z) (z1) (A.1) (i) := xCs_fr hcs (fun a9 q1 q2 => hag9 a9 (by omega))
              have hcv : xTv P F11 (z1) (z2) (s12) (cdp l v (l - t)) := xTv_fr hcv (fun a9 q1 q2 => hag9 a9 (by omega))
              have hb : xSB F11 (z2) ((z2 + 1) + 1) (z2) ([]) := j0
              have hg_93 := hag9
              clear hag9
              refine x_aload hC d_Law_law_96 rfl ?_
              obtain ⟨rv, rK, rg, rr, rb, -⟩ := id hb
              refine x_callV hC kv_Law_146 (c_StringBuilder_append_StringLT (hb := hb) (hJ := hJ) (hT := xTv_T hcv (by omega)) (hl := by simp only [List.length_append, List.length_nil, List.length_cons, cdp_len, cdl_len, dgl_len]; omega) (fo := fo) (m := cdp l v (l - t))) rb rfl rfl (by decide) rfl rfl rfl (Nat.le_of_ble_eq_true rfl) ⟨by omega, by omega⟩ d_Law_law_98 (fun r9 F9 z9 hp9 => ?_)
              obtain ⟨zz_98, rfl, h9c, j0, pw_98, hag9⟩ := hp9
              rw [h9c]
              clear h9c z9
              generalize F9 = F12 at *
              have hM : xMC F12 (cm) (b) (M1) := xMC_fr hM (fun a9 q1 q2 => hag9 a9 (by omega))
              have hcs : xCs F12 (z) (z1) (A.1) (i) := xCs_fr hcs (fun a9 q1 q2 => hag9 a9 (by omega))
              have hcv : xTv P F12 (z1) (z2) (s12) (cdp l v (l - t)) := xTv_fr hcv (fun a9 q1 q2 => hag9 a9 (by omega))
              have hb : xSB F12 (z2) (zz_98) (z2) (([]) ++ (cdp l v (l - t))) := j0
              have hg_98 := hag9
              clear hag9
              refine x_iload hC d_Law_law_101 rfl ?_
              refine x_iload hC d_Law_law_103 rfl ?_
              refine x_top (v := (nI (t - 1))) (pk_sub (by omega)) ?_
              refine x_ishr hC d_Law_law_105 (v := (nI (v / 2 ^ (t - 1)))) (x_shrN (t - 1) (by omega) (by omega) rfl) ?_
              refine x_iconst hC d_Law_law_106 (v := nI 1) (by decide) ?_
              refine x_iand hC d_Law_law_107 (v := (nI (v / 2 ^ (t - 1) % 2))) (x_and1 (by have := Nat.div_le_self v (2 ^ (t - 1)); omega)) ?_
              obtain ⟨rv, rK, rg, rr, rb, -⟩ := id hb
              refine x_callV hC kv_Law_150 (c_StringBuilder_append_IL (hb := hb) (hJ := hJ) (hD := hD) (hx := by omega) (hl := by simp only [List.length_append, List.length_nil, List.length_cons, cdp_len, cdl_len, dgl_len]; omega) (fo := fo) (o1 := o1) (o2 := o2)) rb rfl rfl (by decide) rfl rfl rfl (Nat.le_of_ble_eq_true rfl) ⟨by omega, by omega⟩ d_Law_law_108 (fun r9 F9 z9 hp9 => ?_)
              obtain ⟨zz_108, rfl, h9c, j0, pw_108, hag9⟩ := hp9
              rw [h9c]
              clear h9c z9
              generalize F9 = F13 at *
              have hM : xMC F13 (cm) (b) (M1) := xMC_fr hM (fun a9 q1 q2 => hag9 a9 (by omega))
              have hcs : xCs F13 (z) (z1) (A.1) (i) := xCs_fr hcs (fun a9 q1 q2 => hag9 a9 (by omega))
              have hcv : xTv P F13 (z1) (z2) (s12) (cdp l v (l - t)) := xTv_fr hcv (fun a9 q1 q2 => hag9 a9 (by omega))
              have hb : xSB F13 (z2) (zz_108) (z2) ((([]) ++ (cdp l v (l - t))) ++ dgl (v / 2 ^ (t - 1) % 2)) := j0
              have hg_108 := hag9
              clear hag9
              obtain ⟨rv, rK, rg, rr, rb, -⟩ := id hb
              refine x_callV hC kv_Law_153 (c_StringBuilder_toStringL (hb := hb) (hJ := hJ) (fo := fo)) rb rfl rfl (by decide) rfl rfl rfl (Nat.le_of_ble_eq_true rfl) ⟨by omega, by omega⟩ d_Law_law_111 (fun r9 F9 z9 hp9 => ?_)
              obtain ⟨rfl, h9c, j0, hag9⟩ := hp9
              rw [h9c]
              clear h9c z9
              generalize F9 = F14 at *
              have hM : xMC F14 (cm) (b) (M1) := xMC_fr hM (fun a9 q1 q2 => hag9 a9 (by omega))
              have hcs : xCs F14 (z) (z1) (A.1) (i) := xCs_fr hcs (fun a9 q1 q2 => hag9 a9 (by omega))
              have hcv : xTv P F14 (z1) (z2) (s12) (cdp l v (l - t)) := xTv_fr hcv (fun a9 q1 q2 => hag9 a9 (by omega))
              have hs1 : xTs F14 (zz_108) (((([]) ++ (cdp l v (l - t))) ++ dgl (v / 2 ^ (t - 1) % 2))) := j0
              have hg_111 := hag9
              clear hag9
              refine x_astore hC d_Law_law_114 (Nat.le_of_ble_eq_true rfl) (L1 := [some (.ref a), some (.ref b), some (.int (nI (T))), some (.int (nI (sumN (fun j => A.1 j * hLen A.1 j) i))), some (.int (nI (sumN A.1 i))), some (.int (nI (maxN (hLen A.1) i))), some (.int (nI (A.2.2.1.1))), some (.ref z), some (.int (nI (i))), some (.int (nI (97 + i))), some (.int (nI (l))), some (.int (nI (v))), some (.ref zz_108), some (.int (nI t - nI 1)), none, none, none, none, none, none, none, none]) rfl ?_
              have hcv : xTv P F14 (z1) (zz_108 + 2) (zz_108) (cdp l v (l - (t - 1))) := Or.inl ⟨by
                  have e9 : cdp l v (l - (t - 1)) = ((([]) ++ (cdp l v (l - t))) ++ dgl (v / 2 ^ (t - 1) % 2)) := by
                    rw [show l - (t - 1) = (l - t) + 1 by omega, cdp_s, dgl_bit (by omega), List.nil_append]
                    unfold codeB
                    rw [show l - 1 - (l - t) = t - 1 by omega]
                  rw [e9]
                  exact hs1, by omega, by omega⟩
              refine x_iinc hC d_Law_law_116 rfl (v := (nI (t - 1) - nI 1)) (xt_dec (by omega)) (Nat.le_of_ble_eq_true rfl) (L1 := [some (.ref a), some (.ref b), some (.int (nI (T))), some (.int (nI (sumN (fun j => A.1 j * hLen A.1 j) i))), some (.int (nI (sumN A.1 i))), some (.int (nI (maxN (hLen A.1) i))), some (.int (nI (A.2.2.1.1))), some (.ref z), some (.int (nI (i))), some (.int (nI (97 + i))), some (.int (nI (l))), some (.int (nI (v))), some (.ref zz_108), some (.int (nI (t - 1) - nI 1)), none, none, none, none, none, none, none, none]) rfl ?_
              refine x_goto hC d_Law_law_119 (tgt := 84) (by decide) ?_
              refine x_widen (k1 := k + 20 + 100 * i + 6 * (l - (t - 1))) (n1 := n + 200 + 22000 * i + 2480 * (l - (t - 1))) (by omega) (by omega) ?_
              exact ih_84 F14 (t - 1) (zz_108) (zz_108 + 2) hM hcs hcv (by omega) (by omega) (by omega)
        refine x_widen (k1 := k + 20 + 100 * i + 6 * (l - l)) (n1 := n + 200 + 22000 * i + 2480 * (l - l)) (by omega) (by omega) ?_
        exact loop_84 (l + 1) Fh44 (l) (qe) (z1) hM hcs hcv (by omega) (by omega) (by omega)
  refine x_widen (k1 := k + 10 + 100 * 0) (n1 := n + 100 + 22000 * 0) (by omega) (by omega) ?_
  exact loop_44 (8 - 0 + 1) F1 (0) (M) (z + 1) hM hcs (by omega) (hA) (hB) (by omega) (by omega)

