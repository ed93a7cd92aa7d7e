set_option maxHeartbeats 4000000 in
set_option maxRecDepth 20000 in
theorem l_order {P : xP} {Θ : xT} {fo : Nat} {o1 : Nat} {o2 : Nat} {rt : Nat} {cm : cmT} {sm : Nat} {a : Nat} {N : Nat} {xs : Nat → Int32} {qe : Nat} {qq : Nat} {qx : Nat} {qc : Nat} (hG : xGl P Θ fo o1 o2 rt cm sm a N xs qe qq qx qc) {b : Nat} {M : mcS} {A : aS} {q : Nat} {T : Nat} {ca : Nat} {ce : Nat} {F : xF} {z k n : Nat} (hM : xMC F (cm) (b) (M)) (hcs : xCs F (ca) (ce) (A.1) (8)) (hA : M.1 = A) (hB : pBd M q) (hz : b + 566 ≤ ca) (hce : ce ≤ z) (hk : k + 2000 ≤ 644766) (hn : n + 300000 ≤ 7153085) (kk : ∀ (F1 : xF), xMC F1 cm b M → xCs F1 ca ce A.1 8 → xX P Θ 405 [some (.ref a), some (.ref b), some (.int (nI (T))), some (.int (nI (sumN (fun j => A.1 j * hLen A.1 j) 8))), some (.int (nI (sumN A.1 8))), some (.int (nI (maxN (hLen A.1) 8))), some (.int (nI (A.2.2.1.1))), some (.ref ca), none, none, none, none, none, none, none, none, none, none, none, none, none, none] [] F1 z (k + 1000) (n + 10000)) : xX P Θ 228 [some (.ref a), some (.ref b), some (.int (nI (T))), some (.int (nI (sumN (fun j => A.1 j * hLen A.1 j) 8))), some (.int (nI (sumN A.1 8))), some (.int (nI (maxN (hLen A.1) 8))), some (.int (nI (A.2.2.1.1))), some (.ref ca), none, none, none, none, none, none, none, none, none, none, none, none, none, none] [] F (z) k n := by
  obtain ⟨hC, hZx, hNx, hJ, hD, hSR, hCM, hSM, hS, hE, hEo, hQ, hQo, hX, hXo, hK, hKo⟩ := hG
  have hI : pInv A := hA ▸ hB.1
  obtain ⟨⟨i1_, i2_, i3_, i4_, i5_⟩, iw, idr, im, io, ib, it⟩ := id hI
  refine x_iconst hC d_Law_law_228 (v := nI 0) (by decide) ?_
  refine x_istore hC d_Law_law_229 (Nat.le_of_ble_eq_true rfl) (L1 := [some (.ref a), some (.ref b), some (.int (nI (T))), some (.int (nI (sumN (fun j => A.1 j * hLen A.1 j) 8))), some (.int (nI (sumN A.1 8))), some (.int (nI (maxN (hLen A.1) 8))), some (.int (nI (A.2.2.1.1))), some (.ref ca), some (.int (nI 0)), none, none, none, none, none, none, none, none, none, none, none, none, none]) rfl ?_
  have loop_231 : ∀ (m9 : Nat) (Fh231 : xF) (i1 : Nat), (xMC Fh231 (cm) (b) (M)) → (xCs Fh231 (ca) (ce) (A.1) (8)) → (i1 ≤ 8) → (8 - i1 < m9) → xX P Θ 231 [some (.ref a), some (.ref b), some (.int (nI (T))), some (.int (nI (sumN (fun j => A.1 j * hLen A.1 j) 8))), some (.int (nI (sumN A.1 8))), some (.int (nI (maxN (hLen A.1) 8))), some (.int (nI (A.2.2.1.1))), some (.ref ca), some (.int (nI (i1))), none, none, none, none, none, none, none, none, none, none, none, none, none] [] Fh231 (z) (k + 30 * i1) (n + 200 * i1) := by
    intro m9
    induction m9 with
    | zero => intros; omega
    | succ m9 ih_231 =>
      intro Fh231 i1 hM hcs hi1 hm_231
      refine x_iload hC d_Law_law_231 rfl ?_
      refine x_bipush hC d_Law_law_233 (v := nI 8) (by decide) ?_
      refine x_icmpN_ge hC d_Law_law_235 (tgt := 405) (by decide) (by omega) (by omega) (fun c_235 => ?_) (fun c_235 => ?_)
      · skip
        refine x_widen (k1 := k + 1000) (n1 := n + 10000) (by omega) (by omega) ?_
        refine x_forget (L1 := [some (.ref a), some (.ref b), some (.int (nI (T))), some (.int (nI (sumN (fun j => A.1 j * hLen A.1 j) 8))), some (.int (nI (sumN A.1 8))), some (.int (nI (maxN (hLen A.1) 8))), some (.int (nI (A.2.2.1.1))), some (.ref ca), none, none, none, none, none, none, none, none, none, none, none, none, none, none]) ⟨Or.inr rfl, ⟨Or.inr rfl, ⟨Or.inr rfl, ⟨Or.inr rfl, ⟨Or.inr rfl, ⟨Or.inr rfl, ⟨Or.inr rfl, ⟨Or.inr rfl, ⟨Or.inl rfl, ⟨Or.inl rfl, ⟨Or.inl rfl, ⟨Or.inl rfl, ⟨Or.inl rfl, ⟨Or.inl rfl, ⟨Or.inl rfl, ⟨Or.inl rfl, ⟨Or.inl rfl, ⟨Or.inl rfl, ⟨Or.inl rfl, ⟨Or.inl rfl, ⟨Or.inl rfl, ⟨Or.inl rfl, trivial⟩⟩⟩⟩⟩⟩⟩⟩⟩⟩⟩⟩⟩⟩⟩⟩⟩⟩⟩⟩⟩⟩ ?_
        exact kk Fh231 hM hcs
      · skip
        refine x_iconst hC d_Law_law_238 (v := nI 0) (by decide) ?_
        refine x_istore hC d_Law_law_239 (Nat.le_of_ble_eq_true rfl) (L1 := [some (.ref a), some (.ref b), some (.int (nI (T))), some (.int (nI (sumN (fun j => A.1 j * hLen A.1 j) 8))), some (.int (nI (sumN A.1 8))), some (.int (nI (maxN (hLen A.1) 8))), some (.int (nI (A.2.2.1.1))), some (.ref ca), some (.int (nI (i1))), some (.int (nI 0)), none, none, none, none, none, none, none, none, none, none, none, none]) rfl ?_
        have loop_241 : ∀ (m9 : Nat) (Fh241 : xF) (j1 : Nat), (xMC Fh241 (cm) (b) (M)) → (xCs Fh241 (ca) (ce) (A.1) (8)) → (j1 ≤ 8) → (8 - j1 < m9) → xX P Θ 241 [some (.ref a), some (.ref b), some (.int (nI (T))), some (.int (nI (sumN (fun j => A.1 j * hLen A.1 j) 8))), some (.int (nI (sumN A.1 8))), some (.int (nI (maxN (hLen A.1) 8))), some (.int (nI (A.2.2.1.1))), some (.ref ca), some (.int (nI (i1))), some (.int (nI (j1))), none, none, none, none, none, none, none, none, none, none, none, none] [] Fh241 (z) (k + 30 * i1 + 2 * j1) (n + 200 * i1 + 12 * j1) := by
          intro m9
          induction m9 with
          | zero => intros; omega
          | succ m9 ih_241 =>
            intro Fh241 j1 hM hcs hj1 hm_241
            refine x_iload hC d_Law_law_241 rfl ?_
            refine x_bipush hC d_Law_law_243 (v := nI 8) (by decide) ?_
            refine x_icmpN_ge hC d_Law_law_245 (tgt := 319) (by decide) (by omega) (by omega) (fun c_245 => ?_) (fun c_245 => ?_)
            · skip
              refine x_iload hC d_Law_law_319 rfl ?_
              refine x_ifN_ne hC d_Law_law_321 (tgt := 327) (by decide) (by omega) (fun c_321 => ?_) (fun c_321 => ?_)
              · skip
                have hr9 : i1 - 1 + 1 = i1 := by omega
                have ob := ord_bef (ln := hLen A.1) (r := i1 - 1) (by omega)
                have ov := ord_val (ln := hLen A.1) (r := i1 - 1) (fun j hj => hLen_7 A.1 hj) (by omega)
                rw [hr9] at ob ov
                obtain ⟨x, hx⟩ : ∃ x, hOrd (hLen A.1) (i1 - 1) = x := ⟨_, rfl⟩
                obtain ⟨y, hy⟩ : ∃ y, hOrd (hLen A.1) i1 = y := ⟨_, rfl⟩
                rw [hx, hy] at ob ov
                have hx8 : x < 8 := by rw [← hx]; exact (hOrd_8 (hLen A.1) (by omega)).1
                have hy8 : y < 8 := by rw [← hy]; exact (hOrd_8 (hLen A.1) (by omega)).1
                have ob := bef_iff.mp ob
                have lx := hLen_7 A.1 hx8
                have ly := hLen_7 A.1 hy8
                have vy : hVal (hLen A.1) y ≤ 1024 := hVal_bd ly
                have vx : hVal (hLen A.1) x ≤ 1024 := hVal_bd lx
                refine x_aload_n hC d_Law_law_327 rfl rfl ?_
                refine x_iload hC d_Law_law_328 rfl ?_
                refine x_iconst hC d_Law_law_330 (v := nI 1) (by decide) ?_
                refine x_isub hC d_Law_law_331 (v := (nI ((i1) - 1))) (pk_sub (by omega)) ?_
                obtain ⟨b0, -⟩ := id hM
                refine x_callV hC kv_Law_181 (c_MessageCoder_symbolByCodeK (hM := hM) (hA := hA) (hZx := hZx) (n0 := by omega) (A := A)) b0 rfl rfl (by decide) rfl rfl rfl (Nat.le_of_ble_eq_true rfl) ⟨by omega, by omega⟩ d_Law_law_332 (fun r9 F9 z9 hp9 => ?_)
                obtain ⟨rfl, h9b, h9c⟩ := hp9
                rw [h9b, h9c]
                clear h9b h9c F9 z9
                refine x_top (v := (nI (97 + x))) (by rw [hx]) ?_
                refine x_istore hC d_Law_law_335 (Nat.le_of_ble_eq_true rfl) (L1 := [some (.ref a), some (.ref b), some (.int (nI (T))), some (.int (nI (sumN (fun j => A.1 j * hLen A.1 j) 8))), some (.int (nI (sumN A.1 8))), some (.int (nI (maxN (hLen A.1) 8))), some (.int (nI (A.2.2.1.1))), some (.ref ca), some (.int (nI (i1))), some (.int (nI (97 + x))), none, none, none, none, none, none, none, none, none, none, none, none]) rfl ?_
                refine x_aload_n hC d_Law_law_337 rfl rfl ?_
                refine x_iload hC d_Law_law_338 rfl ?_
                obtain ⟨b0, -⟩ := id hM
                refine x_callV hC kv_Law_181 (c_MessageCoder_symbolByCodeK (hM := hM) (hA := hA) (hZx := hZx) (n0 := by omega) (A := A)) b0 rfl rfl (by decide) rfl rfl rfl (Nat.le_of_ble_eq_true rfl) ⟨by omega, by omega⟩ d_Law_law_340 (fun r9 F9 z9 hp9 => ?_)
                obtain ⟨rfl, h9b, h9c⟩ := hp9
                rw [h9b, h9c]
                clear h9b h9c F9 z9
                refine x_top (v := (nI (97 + y))) (by rw [hy]) ?_
                refine x_istore hC d_Law_law_343 (Nat.le_of_ble_eq_true rfl) (L1 := [some (.ref a), some (.ref b), some (.int (nI (T))), some (.int (nI (sumN (fun j => A.1 j * hLen A.1 j) 8))), some (.int (nI (sumN A.1 8))), some (.int (nI (maxN (hLen A.1) 8))), some (.int (nI (A.2.2.1.1))), some (.ref ca), some (.int (nI (i1))), some (.int (nI (97 + x))), some (.int (nI (97 + y))), none, none, none, none, none, none, none, none, none, none, none]) rfl ?_
                refine x_aload_n hC d_Law_law_345 rfl rfl ?_
                refine x_iload hC d_Law_law_346 rfl ?_
                obtain ⟨b0, -⟩ := id hM
                refine x_callV hC kv_Law_135 (c_MessageCoder_codeLengthK (hM := hM) (hA := hA) (hZx := hZx) (n0 := by omega) (A := A)) b0 rfl rfl (by decide) rfl rfl rfl (Nat.le_of_ble_eq_true rfl) ⟨by omega, by omega⟩ d_Law_law_348 (fun r9 F9 z9 hp9 => ?_)
                obtain ⟨rfl, h9b, h9c⟩ := hp9
                rw [h9b, h9c]
                clear h9b h9c F9 z9
                refine x_top (v := (nI (hLen A.1 y))) (by rw [Nat.add_sub_cancel_left]) ?_
                refine x_aload_n hC d_Law_law_351 rfl rfl ?_
                refine x_iload hC d_Law_law_352 rfl ?_
                obtain ⟨b0, -⟩ := id hM
                refine x_callV hC kv_Law_135 (c_MessageCoder_codeLengthK (hM := hM) (hA := hA) (hZx := hZx) (n0 := by omega) (A := A)) b0 rfl rfl (by decide) rfl rfl rfl (Nat.le_of_ble_eq_true rfl) ⟨by omega, by omega⟩ d_Law_law_354 (fun r9 F9 z9 hp9 => ?_)
                obtain ⟨rfl, h9b, h9c⟩ := hp9
                rw [h9b, h9c]
                clear h9b h9c F9 z9
                refine x_top (v := (nI (hLen A.1 x))) (by rw [Nat.add_sub_cancel_left]) ?_
                refine x_isub hC d_Law_law_357 (v := (nI ((hLen A.1 y) - (hLen A.1 x)))) (pk_sub (by omega)) ?_
                refine x_istore hC d_Law_law_358 (Nat.le_of_ble_eq_true rfl) (L1 := [some (.ref a), some (.ref b), some (.int (nI (T))), some (.int (nI (sumN (fun j => A.1 j * hLen A.1 j) 8))), some (.int (nI (sumN A.1 8))), some (.int (nI (maxN (hLen A.1) 8))), some (.int (nI (A.2.2.1.1))), some (.ref ca), some (.int (nI (i1))), some (.int (nI (97 + x))), some (.int (nI (97 + y))), some (.int (nI ((hLen A.1 y) - (hLen A.1 x)))), none, none, none, none, none, none, none, none, none, none]) rfl ?_
                refine x_iload hC d_Law_law_360 rfl ?_
                refine x_ifN_lt hC d_Law_law_362 (tgt := 397) (by decide) (by omega) (fun c_362 => ?_) (fun c_362 => ?_)
                · skip
                  exact c_362.elim
                · skip
                  refine x_iload hC d_Law_law_365 rfl ?_
                  refine x_ifN_ne hC d_Law_law_367 (tgt := 377) (by decide) (by omega) (fun c_367 => ?_) (fun c_367 => ?_)
                  · skip
                    refine x_aload_n hC d_Law_law_377 rfl rfl ?_
                    refine x_iload hC d_Law_law_378 rfl ?_
                    obtain ⟨b0, -⟩ := id hM
                    refine x_callV hC kv_Law_138 (c_MessageCoder_codeValueK (hM := hM) (hA := hA) (hZx := hZx) (n0 := by omega) (A := A)) b0 rfl rfl (by decide) rfl rfl rfl (Nat.le_of_ble_eq_true rfl) ⟨by omega, by omega⟩ d_Law_law_380 (fun r9 F9 z9 hp9 => ?_)
                    obtain ⟨rfl, h9b, h9c⟩ := hp9
                    rw [h9b, h9c]
                    clear h9b h9c F9 z9
                    refine x_top (v := (nI (hVal (hLen A.1) y))) (by rw [Nat.add_sub_cancel_left]) ?_
                    refine x_aload_n hC d_Law_law_383 rfl rfl ?_
                    refine x_iload hC d_Law_law_384 rfl ?_
                    obtain ⟨b0, -⟩ := id hM
                    refine x_callV hC kv_Law_138 (c_MessageCoder_codeValueK (hM := hM) (hA := hA) (hZx := hZx) (n0 := by omega) (A := A)) b0 rfl rfl (by decide) rfl rfl rfl (Nat.le_of_ble_eq_true rfl) ⟨by omega, by omega⟩ d_Law_law_386 (fun r9 F9 z9 hp9 => ?_)
                    obtain ⟨rfl, h9b, h9c⟩ := hp9
                    rw [h9b, h9c]
                    clear h9b h9c F9 z9
                    refine x_top (v := (nI (hVal (hLen A.1) x))) (by rw [Nat.add_sub_cancel_left]) ?_
                    refine x_iconst hC d_Law_law_389 (v := nI 1) (by decide) ?_
                    refine x_iadd hC d_Law_law_390 (v := (nI (hVal (hLen A.1) x + 1))) (x_addN (by omega)) ?_
                    refine x_iload hC d_Law_law_391 rfl ?_
                    refine x_ishl hC d_Law_law_393 (v := (nI (hVal (hLen A.1) y))) (x_shlN (hLen A.1 y - hLen A.1 x) (by omega) (by rw [← ov]; omega) ov.symm) ?_
                    refine x_icmpN_eq hC d_Law_law_394 (tgt := 399) (by decide) (by omega) (by omega) (fun c_394 => ?_) (fun c_394 => ?_)
                    · skip
                      refine x_iinc hC d_Law_law_399 rfl (v := (nI (i1 + 1))) (x_incN 1) (Nat.le_of_ble_eq_true rfl) (L1 := [some (.ref a), some (.ref b), some (.int (nI (T))), some (.int (nI (sumN (fun j => A.1 j * hLen A.1 j) 8))), some (.int (nI (sumN A.1 8))), some (.int (nI (maxN (hLen A.1) 8))), some (.int (nI (A.2.2.1.1))), some (.ref ca), some (.int (nI (i1 + 1))), some (.int (nI (97 + x))), some (.int (nI (97 + y))), some (.int (nI ((hLen A.1 y) - (hLen A.1 x)))), none, none, none, none, none, none, none, none, none, none]) rfl ?_
                      refine x_goto hC d_Law_law_402 (tgt := 231) (by decide) ?_
                      refine x_forget (L1 := [some (.ref a), some (.ref b), some (.int (nI (T))), some (.int (nI (sumN (fun j => A.1 j * hLen A.1 j) 8))), some (.int (nI (sumN A.1 8))), some (.int (nI (maxN (hLen A.1) 8))), some (.int (nI (A.2.2.1.1))), some (.ref ca), some (.int (nI (i1 + 1))), none, none, none, none, none, none, none, none, none, none, none, none, none]) ⟨Or.inr rfl, ⟨Or.inr rfl, ⟨Or.inr rfl, ⟨Or.inr rfl, ⟨Or.inr rfl, ⟨Or.inr rfl, ⟨Or.inr rfl, ⟨Or.inr rfl, ⟨Or.inr rfl, ⟨Or.inl rfl, ⟨Or.inl rfl, ⟨Or.inl rfl, ⟨Or.inl rfl, ⟨Or.inl rfl, ⟨Or.inl rfl, ⟨Or.inl rfl, ⟨Or.inl rfl, ⟨Or.inl rfl, ⟨Or.inl rfl, ⟨Or.inl rfl, ⟨Or.inl rfl, ⟨Or.inl rfl, trivial⟩⟩⟩⟩⟩⟩⟩⟩⟩⟩⟩⟩⟩⟩⟩⟩⟩⟩⟩⟩⟩⟩ ?_
                      refine x_widen (k1 := k + 30 * (i1 + 1)) (n1 := n + 200 * (i1 + 1)) (by omega) (by omega) ?_
                      exact ih_231 Fh241 (i1 + 1) hM hcs (by omega) (by omega)
                    · skip
                      exact absurd c_394 (by omega)
                  · skip
                    refine x_iload hC d_Law_law_370 rfl ?_
                    refine x_iload hC d_Law_law_372 rfl ?_
                    refine x_icmpN_gt hC d_Law_law_374 (tgt := 397) (by decide) (by omega) (by omega) (fun c_374 => ?_) (fun c_374 => ?_)
                    · skip
                      exact absurd c_374 (by omega)
                    · skip
                      refine x_aload_n hC d_Law_law_377 rfl rfl ?_
                      refine x_iload hC d_Law_law_378 rfl ?_
                      obtain ⟨b0, -⟩ := id hM
                      refine x_callV hC kv_Law_138 (c_MessageCoder_codeValueK (hM := hM) (hA := hA) (hZx := hZx) (n0 := by omega) (A := A)) b0 rfl rfl (by decide) rfl rfl rfl (Nat.le_of_ble_eq_true rfl) ⟨by omega, by omega⟩ d_Law_law_380 (fun r9 F9 z9 hp9 => ?_)
                      obtain ⟨rfl, h9b, h9c⟩ := hp9
                      rw [h9b, h9c]
                      clear h9b h9c F9 z9
                      refine x_top (v := (nI (hVal (hLen A.1) y))) (by rw [Nat.add_sub_cancel_left]) ?_
                      refine x_aload_n hC d_Law_law_383 rfl rfl ?_
                      refine x_iload hC d_Law_law_384 rfl ?_
                      obtain ⟨b0, -⟩ := id hM
                      refine x_callV hC kv_Law_138 (c_MessageCoder_codeValueK (hM := hM) (hA := hA) (hZx := hZx) (n0 := by omega) (A := A)) b0 rfl rfl (by decide) rfl rfl rfl (Nat.le_of_ble_eq_true rfl) ⟨by omega, by omega⟩ d_Law_law_386 (fun r9 F9 z9 hp9 => ?_)
                      obtain ⟨rfl, h9b, h9c⟩ := hp9
                      rw [h9b, h9c]
                      clear h9b h9c F9 z9
                      refine x_top (v := (nI (hVal (hLen A.1) x))) (by rw [Nat.add_sub_cancel_left]) ?_
                      refine x_iconst hC d_Law_law_389 (v := nI 1) (by decide) ?_
                      refine x_iadd hC d_Law_law_390 (v := (nI (hVal (hLen A.1) x + 1))) (x_addN (by omega)) ?_
                      refine x_iload hC d_Law_law_391 rfl ?_
                      refine x_ishl hC d_Law_law_393 (v := (nI (hVal (hLen A.1) y))) (x_shlN (hLen A.1 y - hLen A.1 x) (by omega) (by rw [← ov]; omega) ov.symm) ?_
                      refine x_icmpN_eq hC d_Law_law_394 (tgt := 399) (by decide) (by omega) (by omega) (fun c_394 => ?_) (fun c_394 => ?_)
                      · skip
                        refine x_iinc hC d_Law_law_399 rfl (v := (nI (i1 + 1))) (x_incN 1) (Nat.le_of_ble_eq_true rfl) (L1 := [some (.ref a), some (.ref b), some (.int (nI (T))), some (.int (nI (sumN (fun j => A.1 j * hLen A.1 j) 8))), some (.int (nI (sumN A.1 8))), some (.int (nI (maxN (hLen A.1) 8))), some (.int (nI (A.2.2.1.1))), some (.ref ca), some (.int (nI (i1 + 1))), some (.int (nI (97 + x))), some (.int (nI (97 + y))), some (.int (nI ((hLen A.1 y) - (hLen A.1 x)))), none, none, none, none, none, none, none, none, none, none]) rfl ?_
                        refine x_goto hC d_Law_law_402 (tgt := 231) (by decide) ?_
                        refine x_forget (L1 := [some (.ref a), some (.ref b), some (.int (nI (T))), some (.int (nI (sumN (fun j => A.1 j * hLen A.1 j) 8))), some (.int (nI (sumN A.1 8))), some (.int (nI (maxN (hLen A.1) 8))), some (.int (nI (A.2.2.1.1))), some (.ref ca), some (.int (nI (i1 + 1))), none, none, none, none, none, none, none, none, none, none, none, none, none]) ⟨Or.inr rfl, ⟨Or.inr rfl, ⟨Or.inr rfl, ⟨Or.inr rfl, ⟨Or.inr rfl, ⟨Or.inr rfl, ⟨Or.inr rfl, ⟨Or.inr rfl, ⟨Or.inr rfl, ⟨Or.inl rfl, ⟨Or.inl rfl, ⟨Or.inl rfl, ⟨Or.inl rfl, ⟨Or.inl rfl, ⟨Or.inl rfl, ⟨Or.inl rfl, ⟨Or.inl rfl, ⟨Or.inl rfl, ⟨Or.inl rfl, ⟨Or.inl rfl, ⟨Or.inl rfl, ⟨Or.inl rfl, trivial⟩⟩⟩⟩⟩⟩⟩⟩⟩⟩⟩⟩⟩⟩⟩⟩⟩⟩⟩⟩⟩⟩ ?_
                        refine x_widen (k1 := k + 30 * (i1 + 1)) (n1 := n + 200 * (i1 + 1)) (by omega) (by omega) ?_
                        exact ih_231 Fh241 (i1 + 1) hM hcs (by omega) (by omega)
                      · skip
                        exact absurd c_394 (by omega)
              · skip
                refine x_goto hC d_Law_law_324 (tgt := 399) (by decide) ?_
                refine x_iinc hC d_Law_law_399 rfl (v := (nI (i1 + 1))) (x_incN 1) (Nat.le_of_ble_eq_true rfl) (L1 := [some (.ref a), some (.ref b), some (.int (nI (T))), some (.int (nI (sumN (fun j => A.1 j * hLen A.1 j) 8))), some (.int (nI (sumN A.1 8))), some (.int (nI (maxN (hLen A.1) 8))), some (.int (nI (A.2.2.1.1))), some (.ref ca), some (.int (nI (i1 + 1))), some (.int (nI (j1))), none, none, none, none, none, none, none, none, none, none, none, none]) rfl ?_
                refine x_goto hC d_Law_law_402 (tgt := 231) (by decide) ?_
                refine x_forget (L1 := [some (.ref a), some (.ref b), some (.int (nI (T))), some (.int (nI (sumN (fun j => A.1 j * hLen A.1 j) 8))), some (.int (nI (sumN A.1 8))), some (.int (nI (maxN (hLen A.1) 8))), some (.int (nI (A.2.2.1.1))), some (.ref ca), some (.int (nI (i1 + 1))), none, none, none, none, none, none, none, none, none, none, none, none, none]) ⟨Or.inr rfl, ⟨Or.inr rfl, ⟨Or.inr rfl, ⟨Or.inr rfl, ⟨Or.inr rfl, ⟨Or.inr rfl, ⟨Or.inr rfl, ⟨Or.inr rfl, ⟨Or.inr rfl, ⟨Or.inl rfl, ⟨Or.inl rfl, ⟨Or.inl rfl, ⟨Or.inl rfl, ⟨Or.inl rfl, ⟨Or.inl rfl, ⟨Or.inl rfl, ⟨Or.inl rfl, ⟨Or.inl rfl, ⟨Or.inl rfl, ⟨Or.inl rfl, ⟨Or.inl rfl, ⟨Or.inl rfl, trivial⟩⟩⟩⟩⟩⟩⟩⟩⟩⟩⟩⟩⟩⟩⟩⟩⟩⟩⟩⟩⟩⟩ ?_
                refine x_widen (k1 := k + 30 * (i1 + 1)) (n1 := n + 200 * (i1 + 1)) (by omega) (by omega) ?_
                exact ih_231 Fh241 (i1 + 1) hM hcs (by omega) (by omega)
            · skip
              refine x_iload hC d_Law_law_248 rfl ?_
              refine x_iload hC d_Law_law_250 rfl ?_
              refine x_icmpN_eq hC d_Law_law_252 (tgt := 313) (by decide) (by omega) (by omega) (fun c_252 => ?_) (fun c_252 => ?_)
              · skip
                refine x_iinc hC d_Law_law_313 rfl (v := (nI (j1 + 1))) (x_incN 1) (Nat.le_of_ble_eq_true rfl) (L1 := [some (.ref a), some (.ref b), some (.int (nI (T))), some (.int (nI (sumN (fun j => A.1 j * hLen A.1 j) 8))), some (.int (nI (sumN A.1 8))), some (.int (nI (maxN (hLen A.1) 8))), some (.int (nI (A.2.2.1.1))), some (.ref ca), some (.int (nI (i1))), some (.int (nI (j1 + 1))), none, none, none, none, none, none, none, none, none, none, none, none]) rfl ?_
                refine x_goto hC d_Law_law_316 (tgt := 241) (by decide) ?_
                refine x_widen (k1 := k + 30 * i1 + 2 * (j1 + 1)) (n1 := n + 200 * i1 + 12 * (j1 + 1)) (by omega) (by omega) ?_
                exact ih_241 Fh241 (j1 + 1) hM hcs (by omega) (by omega)
              · skip
                refine x_aload hC d_Law_law_255 rfl ?_
                refine x_iload hC d_Law_law_257 rfl ?_
                refine x_codeGet hC hcs (by omega) d_Law_law_259 (fun sj q1sj q2sj hsj => ?_)
                refine x_aload hC d_Law_law_260 rfl ?_
                refine x_iload hC d_Law_law_262 rfl ?_
                refine x_codeGet hC hcs (by omega) d_Law_law_264 (fun sk q1sk q2sk hsk => ?_)
                obtain ⟨u0, s0, -⟩ := id hsj
                refine x_callV hC kv_Law_177 (c_String_startsWith_StringL (hs := hsj) (hs2 := hsk) (hJ := hJ) (h7 := by rw [cdl_len, cdl_len]; exact ⟨hLen_7 A.1 (by omega), hLen_7 A.1 (by omega)⟩) (fo := fo)) s0 rfl rfl (by decide) rfl rfl rfl (Nat.le_of_ble_eq_true rfl) ⟨by omega, by omega⟩ d_Law_law_265 (fun r9 F9 z9 hp9 => ?_)
                obtain ⟨rfl, h9b, h9c⟩ := hp9
                rw [h9b, h9c]
                clear h9b h9c F9 z9
                refine x_ifB_ne hC d_Law_law_268 (tgt := 311) (by decide) (fun c_268 => ?_) (fun c_268 => ?_)
                · skip
                  exact absurd c_268 (cdl_free (by omega) (by omega) (by omega))
                · skip
                  refine x_aload_n hC d_Law_law_271 rfl rfl ?_
                  refine x_iload hC d_Law_law_272 rfl ?_
                  refine x_callS hC ks_Law_75 (c_Law_symbol (hv := by omega)) (by decide) rfl rfl rfl (Nat.le_of_ble_eq_true rfl) ⟨by omega, by omega⟩ d_Law_law_274 (fun r9 F9 z9 hp9 => ?_)
                  obtain ⟨rfl, h9b, h9c⟩ := hp9
                  rw [h9b, h9c]
                  clear h9b h9c F9 z9
                  obtain ⟨b0, -⟩ := id hM
                  refine x_top (v := (nI (97 + i1))) (by rw [Nat.mod_eq_of_lt (by omega)]) ?_
                  refine x_callV hC kv_Law_169 (c_MessageCoder_weightOfK (hM := hM) (hA := hA) (hZx := hZx) (n0 := by omega) (A := A)) b0 rfl rfl (by decide) rfl rfl rfl (Nat.le_of_ble_eq_true rfl) ⟨by omega, by omega⟩ d_Law_law_277 (fun r9 F9 z9 hp9 => ?_)
                  obtain ⟨rfl, h9b, h9c⟩ := hp9
                  rw [h9b, h9c]
                  clear h9b h9c F9 z9
                  refine x_top (v := (nI (A.1 i1))) (by rw [Nat.add_sub_cancel_left]) ?_
                  refine x_aload_n hC d_Law_law_280 rfl rfl ?_
                  refine x_iload hC d_Law_law_281 rfl ?_
                  refine x_callS hC ks_Law_75 (c_Law_symbol (hv := by omega)) (by decide) rfl rfl rfl (Nat.le_of_ble_eq_true rfl) ⟨by omega, by omega⟩ d_Law_law_283 (fun r9 F9 z9 hp9 => ?_)
                  obtain ⟨rfl, h9b, h9c⟩ := hp9
                  rw [h9b, h9c]
                  clear h9b h9c F9 z9
                  obtain ⟨b0, -⟩ := id hM
                  refine x_top (v := (nI (97 + j1))) (by rw [Nat.mod_eq_of_lt (by omega)]) ?_
                  refine x_callV hC kv_Law_169 (c_MessageCoder_weightOfK (hM := hM) (hA := hA) (hZx := hZx) (n0 := by omega) (A := A)) b0 rfl rfl (by decide) rfl rfl rfl (Nat.le_of_ble_eq_true rfl) ⟨by omega, by omega⟩ d_Law_law_286 (fun r9 F9 z9 hp9 => ?_)
                  obtain ⟨rfl, h9b, h9c⟩ := hp9
                  rw [h9b, h9c]
                  clear h9b h9c F9 z9
                  have w1 := iw i1 (by omega)
                  have w2 := iw j1 (by omega)
                  refine x_top (v := (nI (A.1 j1))) (by rw [Nat.add_sub_cancel_left]) ?_
                  refine x_icmpN_le hC d_Law_law_289 (tgt := 313) (by decide) (by omega) (by omega) (fun c_289 => ?_) (fun c_289 => ?_)
                  · skip
                    refine x_iinc hC d_Law_law_313 rfl (v := (nI (j1 + 1))) (x_incN 1) (Nat.le_of_ble_eq_true rfl) (L1 := [some (.ref a), some (.ref b), some (.int (nI (T))), some (.int (nI (sumN (fun j => A.1 j * hLen A.1 j) 8))), some (.int (nI (sumN A.1 8))), some (.int (nI (maxN (hLen A.1) 8))), some (.int (nI (A.2.2.1.1))), some (.ref ca), some (.int (nI (i1))), some (.int (nI (j1 + 1))), none, none, none, none, none, none, none, none, none, none, none, none]) rfl ?_
                    refine x_goto hC d_Law_law_316 (tgt := 241) (by decide) ?_
                    refine x_widen (k1 := k + 30 * i1 + 2 * (j1 + 1)) (n1 := n + 200 * i1 + 12 * (j1 + 1)) (by omega) (by omega) ?_
                    exact ih_241 Fh241 (j1 + 1) hM hcs (by omega) (by omega)
                  · skip
                    have hv9 : hLen A.1 i1 ≤ hLen A.1 j1 := hvy (by omega) (by omega) (by omega)
                    refine x_aload hC d_Law_law_292 rfl ?_
                    refine x_iload hC d_Law_law_294 rfl ?_
                    refine x_codeGet hC hcs (by omega) d_Law_law_296 (fun sk2 q1sk2 q2sk2 hsk2 => ?_)
                    obtain ⟨u0, s0, -⟩ := id hsk2
                    refine x_callV hC kv_Law_119 (c_String_lengthL (hs := hsk2) (hJ := hJ) (fo := fo)) s0 rfl rfl (by decide) rfl rfl rfl (Nat.le_of_ble_eq_true rfl) ⟨by omega, by omega⟩ d_Law_law_297 (fun r9 F9 z9 hp9 => ?_)
                    obtain ⟨rfl, h9b, h9c⟩ := hp9
                    rw [h9b, h9c]
                    clear h9b h9c F9 z9
                    refine x_top (v := (nI (hLen A.1 i1))) (by rw [cdl_len]) ?_
                    refine x_aload hC d_Law_law_300 rfl ?_
                    refine x_iload hC d_Law_law_302 rfl ?_
                    refine x_codeGet hC hcs (by omega) d_Law_law_304 (fun sj2 q1sj2 q2sj2 hsj2 => ?_)
                    obtain ⟨u0, s0, -⟩ := id hsj2
                    refine x_callV hC kv_Law_119 (c_String_lengthL (hs := hsj2) (hJ := hJ) (fo := fo)) s0 rfl rfl (by decide) rfl rfl rfl (Nat.le_of_ble_eq_true rfl) ⟨by omega, by omega⟩ d_Law_law_305 (fun r9 F9 z9 hp9 => ?_)
                    obtain ⟨rfl, h9b, h9c⟩ := hp9
                    rw [h9b, h9c]
                    clear h9b h9c F9 z9
                    have l7 := hLen_7 A.1 (j := i1) (by omega)
                    have l8 := hLen_7 A.1 (j := j1) (by omega)
                    refine x_top (v := (nI (hLen A.1 j1))) (by rw [cdl_len]) ?_
                    refine x_icmpN_le hC d_Law_law_308 (tgt := 313) (by decide) (by omega) (by omega) (fun c_308 => ?_) (fun c_308 => ?_)
                    · skip
                      refine x_iinc hC d_Law_law_313 rfl (v := (nI (j1 + 1))) (x_incN 1) (Nat.le_of_ble_eq_true rfl) (L1 := [some (.ref a), some (.ref b), some (.int (nI (T))), some (.int (nI (sumN (fun j => A.1 j * hLen A.1 j) 8))), some (.int (nI (sumN A.1 8))), some (.int (nI (maxN (hLen A.1) 8))), some (.int (nI (A.2.2.1.1))), some (.ref ca), some (.int (nI (i1))), some (.int (nI (j1 + 1))), none, none, none, none, none, none, none, none, none, none, none, none]) rfl ?_
                      refine x_goto hC d_Law_law_316 (tgt := 241) (by decide) ?_
                      refine x_widen (k1 := k + 30 * i1 + 2 * (j1 + 1)) (n1 := n + 200 * i1 + 12 * (j1 + 1)) (by omega) (by omega) ?_
                      exact ih_241 Fh241 (j1 + 1) hM hcs (by omega) (by omega)
                    · skip
                      exact absurd c_308 (by omega)
        refine x_widen (k1 := k + 30 * i1 + 2 * 0) (n1 := n + 200 * i1 + 12 * 0) (by omega) (by omega) ?_
        exact loop_241 (8 - 0 + 1) Fh231 (0) hM hcs (by omega) (by omega)
  refine x_widen (k1 := k + 30 * 0) (n1 := n + 200 * 0) (by omega) (by omega) ?_
  exact loop_231 (8 - 0 + 1) F (0) hM hcs (by omega) (by omega)

