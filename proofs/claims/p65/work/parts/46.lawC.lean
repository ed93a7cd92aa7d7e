section XV
variable {P : xP} {Θ : xT} {cc : ByteArray} {own : String} {nL d mc ms pc : Nat} {L : List (Option Value)} {st : List Value} {F : xF} {z k n : Nat}
theorem x_fcmp (hC : xC P Θ cc own nL d mc ms) {x y : UInt32} {op : CmpOp} (hd : decode cc pc = .ok (.fcmp op, 1)) (kk : xX P Θ (pc + 1) L (.int (Op.cmpValue (FP.fcmp x y) op) :: st) F z k n) : xX P Θ pc L (.float y :: .float x :: st) F z k n :=
  fun H locs ls hW hl hx => lv_fcmp hC.1 hC.2.1 hd (kk H locs ls hW hl hx)
end XV
theorem fl_fcmp {r : UInt32} (h : r.toNat % 2 ^ 31 ≤ 2139095040) : FP.fcmp r r = some .eq := fl_ord (fl_d32 h)
set_option maxHeartbeats 4000000 in
set_option maxRecDepth 20000 in
theorem l_costs {P : xP} {Θ : xT} {fo : Nat} {o1 : Nat} {o2 : Nat} {rt : Nat} {cm : cmT} {sm : Nat} {a : Nat} {N : Nat} {xs : Nat → Int32} {qe : Nat} {qq : Nat} {qx : Nat} {qc : Nat} (hG : xGl P Θ fo o1 o2 rt cm sm a N xs qe qq qx qc) {b : Nat} {M : mcS} {A : aS} {q : Nat} {T : Nat} {ca : Nat} {ce : Nat} {F : xF} {z k n : Nat} (hM : xMC F (cm) (b) (M)) (hcs : xCs F (ca) (ce) (A.1) (8)) (hA : M.1 = A) (hB : pBd M q) (hz : b + 566 ≤ ca) (hce : ce ≤ z) (hk : k + 2000 ≤ 644766) (hn : n + 300000 ≤ 7153085) (kk : ∀ (F1 : xF), xMC F1 cm b M → xCs F1 ca ce A.1 8 → xX P Θ 482 [some (.ref a), some (.ref b), some (.int (nI (T))), some (.int (nI (sumN (fun j => A.1 j * hLen A.1 j) 8))), some (.int (nI (sumN A.1 8))), some (.int (nI (maxN (hLen A.1) 8))), some (.int (nI (A.2.2.1.1))), some (.ref ca), none, none, none, none, none, none, none, none, none, none, none, none, none, none] [] F1 z (k + 1000) (n + 10000)) : xX P Θ 405 [some (.ref a), some (.ref b), some (.int (nI (T))), some (.int (nI (sumN (fun j => A.1 j * hLen A.1 j) 8))), some (.int (nI (sumN A.1 8))), some (.int (nI (maxN (hLen A.1) 8))), some (.int (nI (A.2.2.1.1))), some (.ref ca), none, none, none, none, none, none, none, none, none, none, none, none, none, none] [] F (z) k n := by
  obtain ⟨hC, hZx, hNx, hJ, hD, hSR, hCM, hSM, hS, hE, hEo, hQ, hQo, hX, hXo, hK, hKo⟩ := hG
  have hI : pInv A := hA ▸ hB.1
  obtain ⟨⟨i1_, i2_, i3_, i4_, i5_⟩, iw, idr, im, io, ib, it⟩ := id hI
  have hse : hSum A.1 = sumN (fun j => A.1 j * hLen A.1 j) 8 := hSum_eq A.1
  have hs9 : sumN (fun j => A.1 j * hLen A.1 j) 8 ≤ 5544 := sumN_bd 693 8 (fun j hj => Nat.le_trans (Nat.mul_le_mul (iw j hj).2 (hLen_7 A.1 hj)) (Nat.le_refl _))
  have hs8 : sumN A.1 8 ≤ 99 * 8 := sumN_bd 99 8 (fun j hj => (iw j hj).2)
  have hs7 : 0 < sumN A.1 8 := by have h1 := (iw 7 (by omega)).1; show 0 < sumN A.1 7 + A.1 7; omega
  have h3t := sum_3 A.1
  have hmx : maxN (hLen A.1) 8 ≤ 7 := maxN_le 8 (fun j hj => hLen_7 A.1 hj)
  obtain ⟨x, hx⟩ : ∃ x, hOrd (hLen A.1) 0 = x := ⟨_, rfl⟩
  have hx8 : x < 8 := by rw [← hx]; exact (hOrd_8 (hLen A.1) (by omega)).1
  have hv0 : hVal (hLen A.1) x = 0 := by rw [← hx]; exact ord_0
  refine x_aload_n hC d_Law_law_405 rfl rfl ?_
  refine x_aload_n hC d_Law_law_406 rfl rfl ?_
  refine x_iconst hC d_Law_law_407 (v := nI 0) (by decide) ?_
  obtain ⟨b0, -⟩ := id hM
  refine x_callV hC kv_Law_181 (c_MessageCoder_symbolByCodeK (hM := hM) (hA := hA) (hZx := hZx) (n0 := by omega) (A := A)) b0 rfl rfl (by decide) rfl rfl rfl (Nat.le_of_ble_eq_true rfl) ⟨by omega, by omega⟩ d_Law_law_408 (fun r9 F9 z9 hp9 => ?_)
  obtain ⟨rfl, h9b, h9c⟩ := hp9
  rw [h9b, h9c]
  clear h9b h9c F9 z9
  obtain ⟨b0, -⟩ := id hM
  refine x_top (v := (nI (97 + x))) (by rw [hx]) ?_
  refine x_callV hC kv_Law_138 (c_MessageCoder_codeValueK (hM := hM) (hA := hA) (hZx := hZx) (n0 := by omega) (A := A)) b0 rfl rfl (by decide) rfl rfl rfl (Nat.le_of_ble_eq_true rfl) ⟨by omega, by omega⟩ d_Law_law_411 (fun r9 F9 z9 hp9 => ?_)
  obtain ⟨rfl, h9b, h9c⟩ := hp9
  rw [h9b, h9c]
  clear h9b h9c F9 z9
  refine x_top (v := (nI (0))) (by rw [Nat.add_sub_cancel_left, hv0]) ?_
  refine x_ifN_ne hC d_Law_law_414 (tgt := 480) (by decide) (by omega) (fun c_414 => ?_) (fun c_414 => ?_)
  · skip
    exact absurd c_414 (by omega)
  · skip
    refine x_iload_n hC d_Law_law_417 rfl rfl ?_
    refine x_aload_n hC d_Law_law_418 rfl rfl ?_
    obtain ⟨b0, -⟩ := id hM
    refine x_callV hC kv_Law_184 (c_MessageCoder_costK (hM := hM) (hA := hA) (A := A)) b0 rfl rfl (by decide) rfl rfl rfl (Nat.le_of_ble_eq_true rfl) ⟨by omega, by omega⟩ d_Law_law_419 (fun r9 F9 z9 hp9 => ?_)
    obtain ⟨rfl, h9b, h9c⟩ := hp9
    rw [h9b, h9c]
    clear h9b h9c F9 z9
    refine x_top (v := (nI (sumN (fun j => A.1 j * hLen A.1 j) 8))) (by rw [hse]) ?_
    refine x_icmpN_ne hC d_Law_law_422 (tgt := 480) (by decide) (by omega) (by omega) (fun c_422 => ?_) (fun c_422 => ?_)
    · skip
      exact absurd c_422 (by omega)
    · skip
      refine x_iload_n hC d_Law_law_425 rfl rfl ?_
      refine x_aload_n hC d_Law_law_426 rfl rfl ?_
      obtain ⟨b0, -⟩ := id hM
      refine x_callV hC kv_Law_187 (c_MessageCoder_costByRangesK (hM := hM) (hA := hA) (A := A)) b0 rfl rfl (by decide) rfl rfl rfl (Nat.le_of_ble_eq_true rfl) ⟨by omega, by omega⟩ d_Law_law_427 (fun r9 F9 z9 hp9 => ?_)
      obtain ⟨rfl, h9c, j0, hag9⟩ := hp9
      rw [h9c]
      clear h9c z9
      generalize F9 = F1 at *
      have hcs : xCs F1 (ca) (ce) (A.1) (8) := xCs_fr hcs (fun a9 q1 q2 => hag9 a9 (by omega))
      have hM : xMC F1 (cm) (b) (M) := j0
      have hg_427 := hag9
      clear hag9
      refine x_top (v := (nI (sumN (fun j => A.1 j * hLen A.1 j) 8))) (by rw [hse]) ?_
      refine x_icmpN_ne hC d_Law_law_430 (tgt := 480) (by decide) (by omega) (by omega) (fun c_430 => ?_) (fun c_430 => ?_)
      · skip
        exact absurd c_430 (by omega)
      · skip
        refine x_iload_n hC d_Law_law_433 rfl rfl ?_
        refine x_iconst hC d_Law_law_434 (v := nI 3) (by decide) ?_
        refine x_iload hC d_Law_law_435 rfl ?_
        refine x_imul hC d_Law_law_437 (v := (nI ((3) * (sumN A.1 8)))) (pk_mul _ _) ?_
        have h3s : sumN (fun j => A.1 j * hLen A.1 j) 8 ≤ 3 * sumN A.1 8 := by rw [← hse]; exact h3t
        refine x_icmpN_gt hC d_Law_law_438 (tgt := 480) (by decide) (by omega) (by omega) (fun c_438 => ?_) (fun c_438 => ?_)
        · skip
          exact absurd c_438 (by omega)
        · skip
          refine x_iload hC d_Law_law_441 rfl ?_
          refine x_aload_n hC d_Law_law_443 rfl rfl ?_
          obtain ⟨b0, -⟩ := id hM
          refine x_callV hC kv_Law_190 (c_MessageCoder_totalWeightK (hM := hM) (hA := hA) (A := A)) b0 rfl rfl (by decide) rfl rfl rfl (Nat.le_of_ble_eq_true rfl) ⟨by omega, by omega⟩ d_Law_law_444 (fun r9 F9 z9 hp9 => ?_)
          obtain ⟨rfl, h9b, h9c⟩ := hp9
          rw [h9b, h9c]
          clear h9b h9c F9 z9
          refine x_icmpN_ne hC d_Law_law_447 (tgt := 480) (by decide) (by omega) (by omega) (fun c_447 => ?_) (fun c_447 => ?_)
          · skip
            exact absurd c_447 (by omega)
          · skip
            refine x_iload hC d_Law_law_450 rfl ?_
            refine x_aload_n hC d_Law_law_452 rfl rfl ?_
            obtain ⟨b0, -⟩ := id hM
            refine x_callV hC kv_Law_193 (c_MessageCoder_longestCodeK (hM := hM) (hA := hA) (A := A)) b0 rfl rfl (by decide) rfl rfl rfl (Nat.le_of_ble_eq_true rfl) ⟨by omega, by omega⟩ d_Law_law_453 (fun r9 F9 z9 hp9 => ?_)
            obtain ⟨rfl, h9b, h9c⟩ := hp9
            rw [h9b, h9c]
            clear h9b h9c F9 z9
            refine x_icmpN_ne hC d_Law_law_456 (tgt := 480) (by decide) (by omega) (by omega) (fun c_456 => ?_) (fun c_456 => ?_)
            · skip
              exact absurd c_456 (by omega)
            · skip
              refine x_aload_n hC d_Law_law_459 rfl rfl ?_
              obtain ⟨b0, -⟩ := id hM
              refine x_callV hC kv_Law_196 (c_MessageCoder_isCompleteK (hM := hM) (hA := hA) (A := A)) b0 rfl rfl (by decide) rfl rfl rfl (Nat.le_of_ble_eq_true rfl) ⟨by omega, by omega⟩ d_Law_law_460 (fun r9 F9 z9 hp9 => ?_)
              obtain ⟨rfl, h9b, h9c⟩ := hp9
              rw [h9b, h9c]
              clear h9b h9c F9 z9
              refine x_ifN_eq hC d_Law_law_463 (tgt := 480) (by decide) (by omega) (fun c_463 => ?_) (fun c_463 => ?_)
              · skip
                exact absurd c_463 (by omega)
              · skip
                refine x_aload_n hC d_Law_law_466 rfl rfl ?_
                obtain ⟨b0, -⟩ := id hM
                refine x_callV hC kv_Law_199 (c_MessageCoder_meanLengthK (hM := hM) (hA := hA) (hs1 := hs7) (A := A)) b0 rfl rfl (by decide) rfl rfl rfl (Nat.le_of_ble_eq_true rfl) ⟨by omega, by omega⟩ d_Law_law_467 (fun r9 F9 z9 hp9 => ?_)
                obtain ⟨rfl, h9b, h9c⟩ := hp9
                rw [h9b, h9c]
                clear h9b h9c F9 z9
                refine x_iload_n hC d_Law_law_470 rfl rfl ?_
                refine x_i2d hC d_Law_law_471 ?_
                refine x_iload hC d_Law_law_472 rfl ?_
                refine x_i2d hC d_Law_law_474 ?_
                refine x_ddiv hC d_Law_law_475 (fl_n64 (fl_ddiv (by omega) (by omega) hs7)) ?_
                refine x_dcmp hC d_Law_law_476 ?_
                refine x_top (v := (nI (0))) (by rw [hse, fl_dcmp (fl_ddiv (by omega) (by omega) hs7)]; rfl) ?_
                refine x_ifN_eq hC d_Law_law_477 (tgt := 482) (by decide) (by omega) (fun c_477 => ?_) (fun c_477 => ?_)
                · skip
                  refine x_widen (k1 := k + 1000) (n1 := n + 10000) (by omega) (by omega) ?_
                  exact kk F1 hM hcs
                · skip
                  exact absurd c_477 (by omega)

set_option maxHeartbeats 4000000 in
set_option maxRecDepth 20000 in
theorem l_draft {P : xP} {Θ : xT} {fo : Nat} {o1 : Nat} {o2 : Nat} {rt : Nat} {cm : cmT} {sm : Nat} {a : Nat} {N : Nat} {xs : Nat → Int32} {qe : Nat} {qq : Nat} {qx : Nat} {qc : Nat} (hG : xGl P Θ fo o1 o2 rt cm sm a N xs qe qq qx qc) {b : Nat} {M : mcS} {A : aS} {q : Nat} {T : Nat} {ca : Nat} {ce : Nat} {F : xF} {z k n : Nat} (hM : xMC F (cm) (b) (M)) (hcs : xCs F (ca) (ce) (A.1) (8)) (hA : M.1 = A) (hB : pBd M q) (hz : b + 566 ≤ ca) (hce : ce ≤ z) (hk : k + 2000 ≤ 644766) (hn : n + 300000 ≤ 7153085) (kk : ∀ (F1 : xF), xMC F1 cm b M → xCs F1 ca ce A.1 8 → xX P Θ 534 [some (.ref a), some (.ref b), some (.int (nI (T))), some (.int (nI (sumN (fun j => A.1 j * hLen A.1 j) 8))), some (.int (nI (sumN A.1 8))), some (.int (nI (maxN (hLen A.1) 8))), some (.int (nI (A.2.2.1.1))), some (.ref ca), none, none, none, none, none, none, none, none, none, none, none, none, none, none] [] F1 z (k + 1000) (n + 10000)) : xX P Θ 482 [some (.ref a), some (.ref b), some (.int (nI (T))), some (.int (nI (sumN (fun j => A.1 j * hLen A.1 j) 8))), some (.int (nI (sumN A.1 8))), some (.int (nI (maxN (hLen A.1) 8))), some (.int (nI (A.2.2.1.1))), some (.ref ca), none, none, none, none, none, none, none, none, none, none, none, none, none, none] [] F (z) k n := by
  obtain ⟨hC, hZx, hNx, hJ, hD, hSR, hCM, hSM, hS, hE, hEo, hQ, hQo, hX, hXo, hK, hKo⟩ := hG
  have hI : pInv A := hA ▸ hB.1
  obtain ⟨⟨i1_, i2_, i3_, i4_, i5_⟩, iw, idr, im, io, ib, it⟩ := id hI
  refine x_iconst hC d_Law_law_482 (v := nI 0) (by decide) ?_
  refine x_istore hC d_Law_law_483 (Nat.le_of_ble_eq_true rfl) (L1 := [some (.ref a), some (.ref b), some (.int (nI (T))), some (.int (nI (sumN (fun j => A.1 j * hLen A.1 j) 8))), some (.int (nI (sumN A.1 8))), some (.int (nI (maxN (hLen A.1) 8))), some (.int (nI (A.2.2.1.1))), some (.ref ca), some (.int (nI 0)), none, none, none, none, none, none, none, none, none, none, none, none, none]) rfl ?_
  refine x_iconst hC d_Law_law_485 (v := nI 0) (by decide) ?_
  refine x_istore hC d_Law_law_486 (Nat.le_of_ble_eq_true rfl) (L1 := [some (.ref a), some (.ref b), some (.int (nI (T))), some (.int (nI (sumN (fun j => A.1 j * hLen A.1 j) 8))), some (.int (nI (sumN A.1 8))), some (.int (nI (maxN (hLen A.1) 8))), some (.int (nI (A.2.2.1.1))), some (.ref ca), some (.int (nI 0)), some (.int (nI 0)), none, none, none, none, none, none, none, none, none, none, none, none]) rfl ?_
  have loop_488 : ∀ (m9 : Nat) (Fh488 : xF) (i1 : Nat), (xMC Fh488 (cm) (b) (M)) → (xCs Fh488 (ca) (ce) (A.1) (8)) → (i1 ≤ A.2.1.1) → (A.2.1.1 - i1 < m9) → xX P Θ 488 [some (.ref a), some (.ref b), some (.int (nI (T))), some (.int (nI (sumN (fun j => A.1 j * hLen A.1 j) 8))), some (.int (nI (sumN A.1 8))), some (.int (nI (maxN (hLen A.1) 8))), some (.int (nI (A.2.2.1.1))), some (.ref ca), some (.int (nI (bitsN (hLen A.1) A.2.1.2 i1))), some (.int (nI (i1))), none, none, none, none, none, none, none, none, none, none, none, none] [] Fh488 (z) (k + 2 * i1) (n + 12 * i1) := by
    intro m9
    induction m9 with
    | zero => intros; omega
    | succ m9 ih_488 =>
      intro Fh488 i1 hM hcs hi1 hm_488
      refine x_iload hC d_Law_law_488 rfl ?_
      refine x_aload_n hC d_Law_law_490 rfl rfl ?_
      obtain ⟨b0, -⟩ := id hM
      refine x_callV hC kv_Law_203 (c_MessageCoder_draftLengthK (hM := hM) (hA := hA) (A := A)) b0 rfl rfl (by decide) rfl rfl rfl (Nat.le_of_ble_eq_true rfl) ⟨by omega, by omega⟩ d_Law_law_491 (fun r9 F9 z9 hp9 => ?_)
      obtain ⟨rfl, h9b, h9c⟩ := hp9
      rw [h9b, h9c]
      clear h9b h9c F9 z9
      refine x_icmpN_ge hC d_Law_law_494 (tgt := 523) (by decide) (by omega) (by omega) (fun c_494 => ?_) (fun c_494 => ?_)
      · skip
        refine x_aload_n hC d_Law_law_523 rfl rfl ?_
        obtain ⟨b0, -⟩ := id hM
        refine x_callV hC kv_Law_209 (c_MessageCoder_draftBitsK (hM := hM) (hA := hA) (A := A)) b0 rfl rfl (by decide) rfl rfl rfl (Nat.le_of_ble_eq_true rfl) ⟨by omega, by omega⟩ d_Law_law_524 (fun r9 F9 z9 hp9 => ?_)
        obtain ⟨rfl, h9b, h9c⟩ := hp9
        rw [h9b, h9c]
        clear h9b h9c F9 z9
        refine x_iload hC d_Law_law_527 rfl ?_
        have he : i1 = A.2.1.1 := by omega
        have hbn := bitsN_le (ln := hLen A.1) (fun j hj => hLen_7 A.1 hj) A.2.1.2 A.2.1.1
        refine x_top (v := (nI (bitsN (hLen A.1) A.2.1.2 A.2.1.1))) (by rw [he]) ?_
        refine x_icmpN_eq hC d_Law_law_529 (tgt := 534) (by decide) (by omega) (by omega) (fun c_529 => ?_) (fun c_529 => ?_)
        · skip
          refine x_widen (k1 := k + 1000) (n1 := n + 10000) (by omega) (by omega) ?_
          refine x_forget (L1 := [some (.ref a), some (.ref b), some (.int (nI (T))), some (.int (nI (sumN (fun j => A.1 j * hLen A.1 j) 8))), some (.int (nI (sumN A.1 8))), some (.int (nI (maxN (hLen A.1) 8))), some (.int (nI (A.2.2.1.1))), some (.ref ca), none, none, none, none, none, none, none, none, none, none, none, none, none, none]) ⟨Or.inr rfl, ⟨Or.inr rfl, ⟨Or.inr rfl, ⟨Or.inr rfl, ⟨Or.inr rfl, ⟨Or.inr rfl, ⟨Or.inr rfl, ⟨Or.inr rfl, ⟨Or.inl rfl, ⟨Or.inl rfl, ⟨Or.inl rfl, ⟨Or.inl rfl, ⟨Or.inl rfl, ⟨Or.inl rfl, ⟨Or.inl rfl, ⟨Or.inl rfl, ⟨Or.inl rfl, ⟨Or.inl rfl, ⟨Or.inl rfl, ⟨Or.inl rfl, ⟨Or.inl rfl, ⟨Or.inl rfl, trivial⟩⟩⟩⟩⟩⟩⟩⟩⟩⟩⟩⟩⟩⟩⟩⟩⟩⟩⟩⟩⟩⟩ ?_
          exact kk Fh488 hM hcs
        · skip
          exact absurd c_529 (by omega)
      · skip
        have hsy := idr i1 (by omega)
        refine x_iload hC d_Law_law_497 rfl ?_
        refine x_aload hC d_Law_law_499 rfl ?_
        refine x_aload_n hC d_Law_law_501 rfl rfl ?_
        refine x_iload hC d_Law_law_502 rfl ?_
        obtain ⟨b0, -⟩ := id hM
        refine x_callV hC kv_Law_206 (c_MessageCoder_draftAtK (hM := hM) (hA := hA) (hZx := hZx) (n0 := by omega) (A := A)) b0 rfl rfl (by decide) rfl rfl rfl (Nat.le_of_ble_eq_true rfl) ⟨by omega, by omega⟩ d_Law_law_504 (fun r9 F9 z9 hp9 => ?_)
        obtain ⟨rfl, h9b, h9c⟩ := hp9
        rw [h9b, h9c]
        clear h9b h9c F9 z9
        refine x_bipush hC d_Law_law_507 (v := nI 97) (by decide) ?_
        refine x_isub hC d_Law_law_509 (v := (nI (A.2.1.2 i1 - 97))) (pk_sub (by omega)) ?_
        refine x_codeGet hC hcs (by omega) d_Law_law_510 (fun sd q1sd q2sd hsd => ?_)
        obtain ⟨u0, s0, -⟩ := id hsd
        refine x_callV hC kv_Law_119 (c_String_lengthL (hs := hsd) (hJ := hJ) (fo := fo)) s0 rfl rfl (by decide) rfl rfl rfl (Nat.le_of_ble_eq_true rfl) ⟨by omega, by omega⟩ d_Law_law_511 (fun r9 F9 z9 hp9 => ?_)
        obtain ⟨rfl, h9b, h9c⟩ := hp9
        rw [h9b, h9c]
        clear h9b h9c F9 z9
        refine x_top (v := (nI (hLen A.1 (A.2.1.2 i1 - 97)))) (by rw [cdl_len]) ?_
        refine x_iadd hC d_Law_law_514 (v := (nI ((bitsN (hLen A.1) A.2.1.2 i1) + (hLen A.1 (A.2.1.2 i1 - 97))))) (x_addN (by omega)) ?_
        refine x_top (v := (nI (bitsN (hLen A.1) A.2.1.2 (i1 + 1)))) (by rw [bitsN, lenF, if_pos hsy]) ?_
        refine x_istore hC d_Law_law_515 (Nat.le_of_ble_eq_true rfl) (L1 := [some (.ref a), some (.ref b), some (.int (nI (T))), some (.int (nI (sumN (fun j => A.1 j * hLen A.1 j) 8))), some (.int (nI (sumN A.1 8))), some (.int (nI (maxN (hLen A.1) 8))), some (.int (nI (A.2.2.1.1))), some (.ref ca), some (.int (nI (bitsN (hLen A.1) A.2.1.2 (i1 + 1)))), some (.int (nI (i1))), none, none, none, none, none, none, none, none, none, none, none, none]) rfl ?_
        refine x_iinc hC d_Law_law_517 rfl (v := (nI (i1 + 1))) (x_incN 1) (Nat.le_of_ble_eq_true rfl) (L1 := [some (.ref a), some (.ref b), some (.int (nI (T))), some (.int (nI (sumN (fun j => A.1 j * hLen A.1 j) 8))), some (.int (nI (sumN A.1 8))), some (.int (nI (maxN (hLen A.1) 8))), some (.int (nI (A.2.2.1.1))), some (.ref ca), some (.int (nI (bitsN (hLen A.1) A.2.1.2 (i1 + 1)))), some (.int (nI (i1 + 1))), none, none, none, none, none, none, none, none, none, none, none, none]) rfl ?_
        refine x_goto hC d_Law_law_520 (tgt := 488) (by decide) ?_
        refine x_widen (k1 := k + 2 * (i1 + 1)) (n1 := n + 12 * (i1 + 1)) (by omega) (by omega) ?_
        exact ih_488 Fh488 (i1 + 1) hM hcs (by omega) (by omega)
  refine x_widen (k1 := k + 2 * 0) (n1 := n + 12 * 0) (by omega) (by omega) ?_
  exact loop_488 (A.2.1.1 - 0 + 1) F (0) hM hcs (by omega) (by omega)

