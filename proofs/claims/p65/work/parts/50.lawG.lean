set_option maxHeartbeats 4000000 in
set_option maxRecDepth 20000 in
theorem l_msgs {P : xP} {Θ : xT} {fo : Nat} {o1 : Nat} {o2 : Nat} {rt : Nat} {cm : cmT} {sm : Nat} {a : Nat} {N : Nat} {xs : Nat → Int32} {qe : Nat} {qq : Nat} {qx : Nat} {qc : Nat} (hG : xGl P Θ fo o1 o2 rt cm sm a N xs qe qq qx qc) {b : Nat} {M : mcS} {A : aS} {q : Nat} {T : Nat} {ca : Nat} {ce : Nat} {F : xF} {z k n : Nat} (hM : xMC F (cm) (b) (M)) (hcs : xCs F (ca) (ce) (A.1) (8)) (hA : M.1 = A) (hB : pBd M q) (hq : q ≤ 900) (hz : b + 566 ≤ ca) (hce : ce ≤ z) (hk : k + 30000 ≤ 644766) (hn : n + 2000000 ≤ 7153085) (kk : ∀ (M1 : mcS) (F1 : xF) (z1 : Nat), xMC F1 cm b M1 → M1.1 = A → pBd M1 q → z ≤ z1 → xX P Θ 1173 [some (.ref a), some (.ref b), some (.int (nI (T))), none, none, none, some (.int (nI (A.2.2.1.1))), none, none, none, none, none, none, none, none, none, none, none, none, none, none, none] [] F1 z1 (k + 17000) (n + 1000000)) : xX P Θ 534 [some (.ref a), some (.ref b), some (.int (nI (T))), some (.int (nI (sumN (fun j => A.1 j * hLen A.1 j) 8))), some (.int (nI (sumN A.1 8))), some (.int (nI (maxN (hLen A.1) 8))), some (.int (nI (A.2.2.1.1))), some (.ref ca), none, none, none, none, none, none, none, none, none, none, none, none, none, none] [] F (z) k n := by
  obtain ⟨hC, hZx, hNx, hJ, hD, hSR, hCM, hSM, hS, hE, hEo, hQ, hQo, hX, hXo, hK, hKo⟩ := id hG
  have hI : pInv A := hA ▸ hB.1
  obtain ⟨⟨i1_, i2_, i3_, i4_, i5_⟩, iw, idr, im, io, ib, it⟩ := id hI
  refine x_iconst hC d_Law_law_534 (v := nI 0) (by decide) ?_
  refine x_istore hC d_Law_law_535 (Nat.le_of_ble_eq_true rfl) (L1 := [some (.ref a), some (.ref b), some (.int (nI (T))), some (.int (nI (sumN (fun j => A.1 j * hLen A.1 j) 8))), some (.int (nI (sumN A.1 8))), some (.int (nI (maxN (hLen A.1) 8))), some (.int (nI (A.2.2.1.1))), some (.ref ca), none, some (.int (nI 0)), none, none, none, none, none, none, none, none, none, none, none, none]) rfl ?_
  have loop_537 : ∀ (m9 : Nat) (Fh537 : xF) (i : Nat) (M1 : mcS) (z1 : Nat), (xMC Fh537 (cm) (b) (M1)) → (xCs Fh537 (ca) (ce) (A.1) (8)) → (i ≤ A.2.2.1.1) → (M1.1 = A) → (pBd M1 q) → (z ≤ z1) → (A.2.2.1.1 - i < m9) → xX P Θ 537 [some (.ref a), some (.ref b), some (.int (nI (T))), some (.int (nI (sumN (fun j => A.1 j * hLen A.1 j) 8))), some (.int (nI (sumN A.1 8))), some (.int (nI (maxN (hLen A.1) 8))), some (.int (nI (A.2.2.1.1))), some (.ref ca), none, some (.int (nI (i))), none, none, none, none, none, none, none, none, none, none, none, none] [] Fh537 (z1) (k + 2000 * i) (n + 120000 * i) := by
    intro m9
    induction m9 with
    | zero => intros; omega
    | succ m9 ih_537 =>
      intro Fh537 i M1 z1 hM hcs hi9 hA hB hz1 hm_537
      refine x_iload hC d_Law_law_537 rfl ?_
      refine x_iload hC d_Law_law_539 rfl ?_
      refine x_icmpN_ge hC d_Law_law_541 (tgt := 1173) (by decide) (by omega) (by omega) (fun c_541 => ?_) (fun c_541 => ?_)
      · skip
        refine x_widen (k1 := k + 17000) (n1 := n + 1000000) (by omega) (by omega) ?_
        refine x_forget (L1 := [some (.ref a), some (.ref b), some (.int (nI (T))), none, none, none, some (.int (nI (A.2.2.1.1))), none, none, none, none, none, none, none, none, none, none, none, none, none, none, none]) ⟨Or.inr rfl, ⟨Or.inr rfl, ⟨Or.inr rfl, ⟨Or.inl rfl, ⟨Or.inl rfl, ⟨Or.inl rfl, ⟨Or.inr rfl, ⟨Or.inl rfl, ⟨Or.inl rfl, ⟨Or.inl rfl, ⟨Or.inl rfl, ⟨Or.inl rfl, ⟨Or.inl rfl, ⟨Or.inl rfl, ⟨Or.inl rfl, ⟨Or.inl rfl, ⟨Or.inl rfl, ⟨Or.inl rfl, ⟨Or.inl rfl, ⟨Or.inl rfl, ⟨Or.inl rfl, ⟨Or.inl rfl, trivial⟩⟩⟩⟩⟩⟩⟩⟩⟩⟩⟩⟩⟩⟩⟩⟩⟩⟩⟩⟩⟩⟩ ?_
        exact kk M1 Fh537 z1 hM hA hB (by omega)
      · skip
        refine l_m1 hG hM hcs hA hB hq hz (by omega) (by omega) rfl (by omega) (by omega) (fun s14 s15 Fa za hM hcs ht hbt hs1_ hs2_ hs3_ => ?_)
        refine l_m2 hG hM hcs ht hbt hA hB hq hz (by omega) (by omega) rfl (by omega) (by omega) (by omega) (by omega) (fun Mb Fb zb hM hcs ht hbt hA hB hzb => ?_)
        refine l_m3 hG hM hcs ht hbt hA hB hq hz (by omega) (by omega) rfl (by omega) (by omega) (by omega) (by omega) rfl (fun Fc zc hM hcs ht hbt hzc => ?_)
        refine l_m4 hG hM hcs ht hA hB hq hz (by omega) (by omega) rfl (by omega) (by omega) (by omega) (by omega) (fun Fd hM hcs ht => ?_)
        refine l_m5 hG hM hcs ht hA hB hq hz (by omega) (by omega) rfl (by omega) (by omega) (by omega) (by omega) (fun Fe hM hcs => ?_)
        refine x_iinc hC d_Law_law_1167 rfl (v := (nI (i + 1))) (x_incN 1) (Nat.le_of_ble_eq_true rfl) (L1 := [some (.ref a), some (.ref b), some (.int (nI (T))), some (.int (nI (sumN (fun j => A.1 j * hLen A.1 j) 8))), some (.int (nI (sumN A.1 8))), some (.int (nI (maxN (hLen A.1) 8))), some (.int (nI (A.2.2.1.1))), some (.ref ca), none, some (.int (nI (i + 1))), none, none, none, none, none, none, none, none, none, none, none, none]) rfl ?_
        refine x_goto hC d_Law_law_1170 (tgt := 537) (by decide) ?_
        refine x_widen (k1 := k + 2000 * (i + 1)) (n1 := n + 120000 * (i + 1)) (by omega) (by omega) ?_
        exact ih_537 Fe (i + 1) (Mb) (zc) hM hcs (by omega) (hA) (hB) (by omega) (by omega)
  refine x_widen (k1 := k + 2000 * 0) (n1 := n + 120000 * 0) (by omega) (by omega) ?_
  exact loop_537 (A.2.2.1.1 - 0 + 1) F (0) (M) (z) hM hcs (by omega) (hA) (hB) (Nat.le_refl z) (by omega)

theorem rgt_lt : ∀ d, d < 16 → ∀ j, j < 7 → rgt d j ≤ 1 := by decide +kernel
theorem bitP_1 (x p : Nat) : bitP x p ≤ 1 := by
  unfold bitP
  omega
set_option maxHeartbeats 4000000 in
set_option maxRecDepth 20000 in
theorem l_blocks {P : xP} {Θ : xT} {fo : Nat} {o1 : Nat} {o2 : Nat} {rt : Nat} {cm : cmT} {sm : Nat} {a : Nat} {N : Nat} {xs : Nat → Int32} {qe : Nat} {qq : Nat} {qx : Nat} {qc : Nat} (hG : xGl P Θ fo o1 o2 rt cm sm a N xs qe qq qx qc) {b : Nat} {M : mcS} {A : aS} {q : Nat} {T : Nat} {F : xF} {z k n : Nat} (hM : xMC F (cm) (b) (M)) (hA : M.1 = A) (hB : pBd M q) (hq : q ≤ 900) (hz : b + 566 ≤ z) (hk : k + 5000 ≤ 644766) (hn : n + 50000 ≤ 7153085) (kk : ∀ (F1 : xF) (z1 : Nat), xMC F1 cm b M → z ≤ z1 → xX P Θ 1444 [some (.ref a), some (.ref b), some (.int (nI (T))), none, none, none, some (.int (nI (A.2.2.1.1))), none, none, some (.int (nI (dmgN A.2.2.2.1.2.1 A.2.2.2.1.1))), some (.int (nI (A.2.2.2.1.1))), none, none, none, none, none, none, none, none, none, none, none] [] F1 z1 (k + 1000) (n + 10000)) : xX P Θ 1173 [some (.ref a), some (.ref b), some (.int (nI (T))), none, none, none, some (.int (nI (A.2.2.1.1))), none, none, none, none, none, none, none, none, none, none, none, none, none, none, none] [] F (z) k n := by
  obtain ⟨hC, hZx, hNx, hJ, hD, hSR, hCM, hSM, hS, hE, hEo, hQ, hQo, hX, hXo, hK, hKo⟩ := hG
  have hI : pInv A := hA ▸ hB.1
  obtain ⟨⟨i1_, i2_, i3_, i4_, i5_⟩, iw, idr, im, io, ib, it⟩ := id hI
  refine x_iconst hC d_Law_law_1173 (v := nI 0) (by decide) ?_
  refine x_istore hC d_Law_law_1174 (Nat.le_of_ble_eq_true rfl) (L1 := [some (.ref a), some (.ref b), some (.int (nI (T))), none, none, none, some (.int (nI (A.2.2.1.1))), none, none, some (.int (nI 0)), none, none, none, none, none, none, none, none, none, none, none, none]) rfl ?_
  refine x_aload_n hC d_Law_law_1176 rfl rfl ?_
  obtain ⟨b0, -⟩ := id hM
  refine x_callV hC kv_Law_112 (c_MessageCoder_frameLengthK (hM := hM) (hA := hA) (A := A)) b0 rfl rfl (by decide) rfl rfl rfl (Nat.le_of_ble_eq_true rfl) ⟨by omega, by omega⟩ d_Law_law_1177 (fun r9 F9 z9 hp9 => ?_)
  obtain ⟨rfl, h9b, h9c⟩ := hp9
  rw [h9b, h9c]
  clear h9b h9c F9 z9
  refine x_bipush hC d_Law_law_1180 (v := nI 7) (by decide) ?_
  refine x_idiv hC d_Law_law_1182 (x_ne0 (by omega) (by omega)) (v := (nI ((A.2.2.2.1.1 * 7) / (7)))) (pk_div (by omega) (by omega) (by omega)) ?_
  refine x_top (v := (nI (A.2.2.2.1.1))) (by rw [Nat.mul_div_cancel _ (by decide)]) ?_
  refine x_istore hC d_Law_law_1183 (Nat.le_of_ble_eq_true rfl) (L1 := [some (.ref a), some (.ref b), some (.int (nI (T))), none, none, none, some (.int (nI (A.2.2.1.1))), none, none, some (.int (nI 0)), some (.int (nI (A.2.2.2.1.1))), none, none, none, none, none, none, none, none, none, none, none]) rfl ?_
  refine x_iconst hC d_Law_law_1185 (v := nI 0) (by decide) ?_
  refine x_istore hC d_Law_law_1186 (Nat.le_of_ble_eq_true rfl) (L1 := [some (.ref a), some (.ref b), some (.int (nI (T))), none, none, none, some (.int (nI (A.2.2.1.1))), none, none, some (.int (nI 0)), some (.int (nI (A.2.2.2.1.1))), some (.int (nI 0)), none, none, none, none, none, none, none, none, none, none]) rfl ?_
  have loop_1188 : ∀ (m9 : Nat) (Fh1188 : xF) (i : Nat) (z1 : Nat), (xMC Fh1188 (cm) (b) (M)) → (i ≤ A.2.2.2.1.1) → (z ≤ z1) → (A.2.2.2.1.1 - i < m9) → xX P Θ 1188 [some (.ref a), some (.ref b), some (.int (nI (T))), none, none, none, some (.int (nI (A.2.2.1.1))), none, none, some (.int (nI (dmgN A.2.2.2.1.2.1 i))), some (.int (nI (A.2.2.2.1.1))), some (.int (nI (i))), none, none, none, none, none, none, none, none, none, none] [] Fh1188 (z1) (k + 10 + 30 * i) (n + 100 + 200 * i) := by
    intro m9
    induction m9 with
    | zero => intros; omega
    | succ m9 ih_1188 =>
      intro Fh1188 i z1 hM hi hz1 hm_1188
      refine x_iload hC d_Law_law_1188 rfl ?_
      refine x_iload hC d_Law_law_1190 rfl ?_
      refine x_icmpN_ge hC d_Law_law_1192 (tgt := 1444) (by decide) (by omega) (by omega) (fun c_1192 => ?_) (fun c_1192 => ?_)
      · skip
        refine x_widen (k1 := k + 1000) (n1 := n + 10000) (by omega) (by omega) ?_
        refine x_forget (L1 := [some (.ref a), some (.ref b), some (.int (nI (T))), none, none, none, some (.int (nI (A.2.2.1.1))), none, none, some (.int (nI (dmgN A.2.2.2.1.2.1 i))), some (.int (nI (A.2.2.2.1.1))), none, none, none, none, none, none, none, none, none, none, none]) ⟨Or.inr rfl, ⟨Or.inr rfl, ⟨Or.inr rfl, ⟨Or.inl rfl, ⟨Or.inl rfl, ⟨Or.inl rfl, ⟨Or.inr rfl, ⟨Or.inl rfl, ⟨Or.inl rfl, ⟨Or.inr rfl, ⟨Or.inr rfl, ⟨Or.inl rfl, ⟨Or.inl rfl, ⟨Or.inl rfl, ⟨Or.inl rfl, ⟨Or.inl rfl, ⟨Or.inl rfl, ⟨Or.inl rfl, ⟨Or.inl rfl, ⟨Or.inl rfl, ⟨Or.inl rfl, ⟨Or.inl rfl, trivial⟩⟩⟩⟩⟩⟩⟩⟩⟩⟩⟩⟩⟩⟩⟩⟩⟩⟩⟩⟩⟩⟩ ?_
        obtain rfl : i = A.2.2.2.1.1 := by omega
        exact kk Fh1188 z1 hM (by omega)
      · skip
        obtain ⟨x, hx⟩ : ∃ x, A.2.2.2.1.2.1 i = x := ⟨_, rfl⟩
        have hx8 : x < 128 := by rw [← hx]; exact ib i (by omega)
        obtain ⟨sy, hsy⟩ : ∃ sy, syn x = sy := ⟨_, rfl⟩
        have hsy7 : sy ≤ 7 := by rw [← hsy]; exact syn_le x
        obtain ⟨d, hd⟩ : ∃ d, datN (corN x) = d := ⟨_, rfl⟩
        have hd16 : d < 16 := by rw [← hd]; exact blk_dat x hx8
        refine x_aload_n hC d_Law_law_1195 rfl rfl ?_
        refine x_iload hC d_Law_law_1196 rfl ?_
        obtain ⟨b0, -⟩ := id hM
        refine x_callV hC kv_Law_68 (c_MessageCoder_syndromeK (hM := hM) (hA := hA) (hZx := hZx) (n0 := by omega) (A := A)) b0 rfl rfl (by decide) rfl rfl rfl (Nat.le_of_ble_eq_true rfl) ⟨by omega, by omega⟩ d_Law_law_1198 (fun r9 F9 z9 hp9 => ?_)
        obtain ⟨rfl, h9b, h9c⟩ := hp9
        rw [h9b, h9c]
        clear h9b h9c F9 z9
        refine x_top (v := (nI (sy))) (by rw [hx, hsy]) ?_
        refine x_istore hC d_Law_law_1201 (Nat.le_of_ble_eq_true rfl) (L1 := [some (.ref a), some (.ref b), some (.int (nI (T))), none, none, none, some (.int (nI (A.2.2.1.1))), none, none, some (.int (nI (dmgN A.2.2.2.1.2.1 i))), some (.int (nI (A.2.2.2.1.1))), some (.int (nI (i))), some (.int (nI (sy))), none, none, none, none, none, none, none, none, none]) rfl ?_
        refine x_aload_n hC d_Law_law_1203 rfl rfl ?_
        refine x_iload hC d_Law_law_1204 rfl ?_
        obtain ⟨b0, -⟩ := id hM
        refine x_callV hC kv_Law_252 (c_MessageCoder_correctedBitsK (hM := hM) (hA := hA) (hZx := hZx) (n0 := by omega) (A := A)) b0 rfl rfl (by decide) rfl rfl rfl (Nat.le_of_ble_eq_true rfl) ⟨by omega, by omega⟩ d_Law_law_1206 (fun r9 F9 z9 hp9 => ?_)
        obtain ⟨rfl, h9b, h9c⟩ := hp9
        rw [h9b, h9c]
        clear h9b h9c F9 z9
        refine x_top (v := (nI (d))) (by rw [hx, hd]) ?_
        refine x_istore hC d_Law_law_1209 (Nat.le_of_ble_eq_true rfl) (L1 := [some (.ref a), some (.ref b), some (.int (nI (T))), none, none, none, some (.int (nI (A.2.2.1.1))), none, none, some (.int (nI (dmgN A.2.2.2.1.2.1 i))), some (.int (nI (A.2.2.2.1.1))), some (.int (nI (i))), some (.int (nI (sy))), some (.int (nI (d))), none, none, none, none, none, none, none, none]) rfl ?_
        refine x_iconst hC d_Law_law_1211 (v := nI 0) (by decide) ?_
        refine x_istore hC d_Law_law_1212 (Nat.le_of_ble_eq_true rfl) (L1 := [some (.ref a), some (.ref b), some (.int (nI (T))), none, none, none, some (.int (nI (A.2.2.1.1))), none, none, some (.int (nI (dmgN A.2.2.2.1.2.1 i))), some (.int (nI (A.2.2.2.1.1))), some (.int (nI (i))), some (.int (nI (sy))), some (.int (nI (d))), some (.int (nI 0)), none, none, none, none, none, none, none]) rfl ?_
        refine x_iload hC d_Law_law_1214 rfl ?_
        refine x_iconst hC d_Law_law_1216 (v := nI 3) (by decide) ?_
        refine x_ishr hC d_Law_law_1217 (v := (nI (d / 8))) (x_shrN 3 (by omega) (by omega) rfl) ?_
        refine x_iconst hC d_Law_law_1218 (v := nI 1) (by decide) ?_
        refine x_iand hC d_Law_law_1219 (v := (nI (d / 8 % 2))) (x_and1 (by omega)) ?_
        refine x_istore hC d_Law_law_1220 (Nat.le_of_ble_eq_true rfl) (L1 := [some (.ref a), some (.ref b), some (.int (nI (T))), none, none, none, some (.int (nI (A.2.2.1.1))), none, none, some (.int (nI (dmgN A.2.2.2.1.2.1 i))), some (.int (nI (A.2.2.2.1.1))), some (.int (nI (i))), some (.int (nI (sy))), some (.int (nI (d))), some (.int (nI 0)), some (.int (nI (d / 8 % 2))), none, none, none, none, none, none]) rfl ?_
        refine x_iload hC d_Law_law_1222 rfl ?_
        refine x_iconst hC d_Law_law_1224 (v := nI 2) (by decide) ?_
        refine x_ishr hC d_Law_law_1225 (v := (nI (d / 4))) (x_shrN 2 (by omega) (by omega) rfl) ?_
        refine x_iconst hC d_Law_law_1226 (v := nI 1) (by decide) ?_
        refine x_iand hC d_Law_law_1227 (v := (nI (d / 4 % 2))) (x_and1 (by omega)) ?_
        refine x_istore hC d_Law_law_1228 (Nat.le_of_ble_eq_true rfl) (L1 := [some (.ref a), some (.ref b), some (.int (nI (T))), none, none, none, some (.int (nI (A.2.2.1.1))), none, none, some (.int (nI (dmgN A.2.2.2.1.2.1 i))), some (.int (nI (A.2.2.2.1.1))), some (.int (nI (i))), some (.int (nI (sy))), some (.int (nI (d))), some (.int (nI 0)), some (.int (nI (d / 8 % 2))), some (.int (nI (d / 4 % 2))), none, none, none, none, none]) rfl ?_
        refine x_iload hC d_Law_law_1230 rfl ?_
        refine x_iconst hC d_Law_law_1232 (v := nI 1) (by decide) ?_
        refine x_ishr hC d_Law_law_1233 (v := (nI (d / 2))) (x_shrN 1 (by omega) (by omega) rfl) ?_
        refine x_iconst hC d_Law_law_1234 (v := nI 1) (by decide) ?_
        refine x_iand hC d_Law_law_1235 (v := (nI (d / 2 % 2))) (x_and1 (by omega)) ?_
        refine x_istore hC d_Law_law_1236 (Nat.le_of_ble_eq_true rfl) (L1 := [some (.ref a), some (.ref b), some (.int (nI (T))), none, none, none, some (.int (nI (A.2.2.1.1))), none, none, some (.int (nI (dmgN A.2.2.2.1.2.1 i))), some (.int (nI (A.2.2.2.1.1))), some (.int (nI (i))), some (.int (nI (sy))), some (.int (nI (d))), some (.int (nI 0)), some (.int (nI (d / 8 % 2))), some (.int (nI (d / 4 % 2))), some (.int (nI (d / 2 % 2))), none, none, none, none]) rfl ?_
        refine x_iload hC d_Law_law_1238 rfl ?_
        refine x_iconst hC d_Law_law_1240 (v := nI 1) (by decide) ?_
        refine x_iand hC d_Law_law_1241 (v := (nI (d % 2))) (x_and1 (by omega)) ?_
        refine x_istore hC d_Law_law_1242 (Nat.le_of_ble_eq_true rfl) (L1 := [some (.ref a), some (.ref b), some (.int (nI (T))), none, none, none, some (.int (nI (A.2.2.1.1))), none, none, some (.int (nI (dmgN A.2.2.2.1.2.1 i))), some (.int (nI (A.2.2.2.1.1))), some (.int (nI (i))), some (.int (nI (sy))), some (.int (nI (d))), some (.int (nI 0)), some (.int (nI (d / 8 % 2))), some (.int (nI (d / 4 % 2))), some (.int (nI (d / 2 % 2))), some (.int (nI (d % 2))), none, none, none]) rfl ?_
        refine x_bipush hC d_Law_law_1244 (v := nI 7) (by decide) ?_
        refine x_newa hC (t := 0) rfl (by decide) (by decide) (x_in (x_of (xtb_1 (List.mem_of_getElem? (i := 109) (by decide +kernel)))) (by decide +kernel)) rfl (by omega) (by decide) ⟨by omega, by omega⟩ (f1 := fun b9 => .int (nI ((fun _ => 0) b9))) rfl d_Law_law_1246 ?_
        generalize e1 : xup Fh1188 (z1) (.inr (0, 7, fun b9 => .int (nI ((fun _ => 0) b9)))) = F1
        have hM : xMC F1 (cm) (b) (M) := xMC_fr hM (fun a9 q1 q2 => by rw [← e1]; exact xup_ne (by omega))
        have hr : F1 (z1) = some (.inr (0, 7, fun b9 => .int (nI ((fun _ => 0) b9)))) := by rw [← e1]; exact xup_eq
        refine x_dup hC d_Law_law_1248 rfl ?_
        refine x_iconst hC d_Law_law_1249 (v := nI 0) (by decide) ?_
        refine x_iload hC d_Law_law_1250 rfl ?_
        refine x_iload hC d_Law_law_1252 rfl ?_
        refine x_ixor hC d_Law_law_1254 (v := (nI (d / 8 % 2 ^^^ d / 4 % 2))) (x_xorN _ _) ?_
        refine x_iload hC d_Law_law_1255 rfl ?_
        refine x_ixor hC d_Law_law_1257 (v := (nI (d / 8 % 2 ^^^ d / 4 % 2 ^^^ d % 2))) (x_xorN _ _) ?_
        refine x_iast hC hr (j := 0) ⟨rfl, by omega, by omega⟩ d_Law_law_1258 (g1 := fun b9 => nI (updN ((fun _ => 0)) (0) (d / 8 % 2 ^^^ d / 4 % 2 ^^^ d % 2) b9)) (x_updN _ _ _) ?_
        generalize egr1 : updN ((fun _ => 0)) (0) (d / 8 % 2 ^^^ d / 4 % 2 ^^^ d % 2) = gr1
        generalize e3 : xup F1 (z1) (.inr (0, 7, fun b9 => .int (nI (gr1 b9)))) = F3
        have hM : xMC F3 (cm) (b) (M) := xMC_fr hM (fun a9 q1 q2 => by rw [← e3]; exact xup_ne (by omega))
        have hr : F3 (z1) = some (.inr (0, 7, fun b9 => .int (nI (gr1 b9)))) := by rw [← e3]; exact xup_eq
        refine x_dup hC d_Law_law_1259 rfl ?_
        refine x_iconst hC d_Law_law_1260 (v := nI 1) (by decide) ?_
        refine x_iload hC d_Law_law_1261 rfl ?_
        refine x_iload hC d_Law_law_1263 rfl ?_
        refine x_ixor hC d_Law_law_1265 (v := (nI (d / 8 % 2 ^^^ d / 2 % 2))) (x_xorN _ _) ?_
        refine x_iload hC d_Law_law_1266 rfl ?_
        refine x_ixor hC d_Law_law_1268 (v := (nI (d / 8 % 2 ^^^ d / 2 % 2 ^^^ d % 2))) (x_xorN _ _) ?_
        refine x_iast hC hr (j := 1) ⟨rfl, by omega, by omega⟩ d_Law_law_1269 (g1 := fun b9 => nI (updN gr1 (1) (d / 8 % 2 ^^^ d / 2 % 2 ^^^ d % 2) b9)) (x_updN _ _ _) ?_
        generalize egr2 : updN gr1 (1) (d / 8 % 2 ^^^ d / 2 % 2 ^^^ d % 2) = gr2
        generalize e5 : xup F3 (z1) (.inr (0, 7, fun b9 => .int (nI (gr2 b9)))) = F5
        have hM : xMC F5 (cm) (b) (M) := xMC_fr hM (fun a9 q1 q2 => by rw [← e5]; exact xup_ne (by omega))
        have hr : F5 (z1) = some (.inr (0, 7, fun b9 => .int (nI (gr2 b9)))) := by rw [← e5]; exact xup_eq
        refine x_dup hC d_Law_law_1270 rfl ?_
        refine x_iconst hC d_Law_law_1271 (v := nI 2) (by decide) ?_
        refine x_iload hC d_Law_law_1272 rfl ?_
        refine x_iast hC hr (j := 2) ⟨rfl, by omega, by omega⟩ d_Law_law_1274 (g1 := fun b9 => nI (updN gr2 (2) (d / 8 % 2) b9)) (x_updN _ _ _) ?_
        generalize egr3 : updN gr2 (2) (d / 8 % 2) = gr3
        generalize e7 : xup F5 (z1) (.inr (0, 7, fun b9 => .int (nI (gr3 b9)))) = F7
        have hM : xMC F7 (cm) (b) (M) := xMC_fr hM (fun a9 q1 q2 => by rw [← e7]; exact xup_ne (by omega))
        have hr : F7 (z1) = some (.inr (0, 7, fun b9 => .int (nI (gr3 b9)))) := by rw [← e7]; exact xup_eq
        refine x_dup hC d_Law_law_1275 rfl ?_
        refine x_iconst hC d_Law_law_1276 (v := nI 3) (by decide) ?_
        refine x_iload hC d_Law_law_1277 rfl ?_
        refine x_iload hC d_Law_law_1279 rfl ?_
        refine x_ixor hC d_Law_law_1281 (v := (nI (d / 4 % 2 ^^^ d / 2 % 2))) (x_xorN _ _) ?_
        refine x_iload hC d_Law_law_1282 rfl ?_
        refine x_ixor hC d_Law_law_1284 (v := (nI (d / 4 % 2 ^^^ d / 2 % 2 ^^^ d % 2))) (x_xorN _ _) ?_
        refine x_iast hC hr (j := 3) ⟨rfl, by omega, by omega⟩ d_Law_law_1285 (g1 := fun b9 => nI (updN gr3 (3) (d / 4 % 2 ^^^ d / 2 % 2 ^^^ d % 2) b9)) (x_updN _ _ _) ?_
        generalize egr4 : updN gr3 (3) (d / 4 % 2 ^^^ d / 2 % 2 ^^^ d % 2) = gr4
        generalize e9 : xup F7 (z1) (.inr (0, 7, fun b9 => .int (nI (gr4 b9)))) = F9
        have hM : xMC F9 (cm) (b) (M) := xMC_fr hM (fun a9 q1 q2 => by rw [← e9]; exact xup_ne (by omega))
        have hr : F9 (z1) = some (.inr (0, 7, fun b9 => .int (nI (gr4 b9)))) := by rw [← e9]; exact xup_eq
        refine x_dup hC d_Law_law_1286 rfl ?_
        refine x_iconst hC d_Law_law_1287 (v := nI 4) (by decide) ?_
        refine x_iload hC d_Law_law_1288 rfl ?_
        refine x_iast hC hr (j := 4) ⟨rfl, by omega, by omega⟩ d_Law_law_1290 (g1 := fun b9 => nI (updN gr4 (4) (d / 4 % 2) b9)) (x_updN _ _ _) ?_
        generalize egr5 : updN gr4 (4) (d / 4 % 2) = gr5
        generalize e11 : xup F9 (z1) (.inr (0, 7, fun b9 => .int (nI (gr5 b9)))) = F11
        have hM : xMC F11 (cm) (b) (M) := xMC_fr hM (fun a9 q1 q2 => by rw [← e11]; exact xup_ne (by omega))
        have hr : F11 (z1) = some (.inr (0, 7, fun b9 => .int (nI (gr5 b9)))) := by rw [← e11]; exact xup_eq
        refine x_dup hC d_Law_law_1291 rfl ?_
        refine x_iconst hC d_Law_law_1292 (v := nI 5) (by decide) ?_
        refine x_iload hC d_Law_law_1293 rfl ?_
        refine x_iast hC hr (j := 5) ⟨rfl, by omega, by omega⟩ d_Law_law_1295 (g1 := fun b9 => nI (updN gr5 (5) (d / 2 % 2) b9)) (x_updN _ _ _) ?_
        generalize egr6 : updN gr5 (5) (d / 2 % 2) = gr6
        generalize e13 : xup F11 (z1) (.inr (0, 7, fun b9 => .int (nI (gr6 b9)))) = F13
        have hM : xMC F13 (cm) (b) (M) := xMC_fr hM (fun a9 q1 q2 => by rw [← e13]; exact xup_ne (by omega))
        have hr : F13 (z1) = some (.inr (0, 7, fun b9 => .int (nI (gr6 b9)))) := by rw [← e13]; exact xup_eq
        refine x_dup hC d_Law_law_1296 rfl ?_
        refine x_bipush hC d_Law_law_1297 (v := nI 6) (by decide) ?_
        refine x_iload hC d_Law_law_1299 rfl ?_
        refine x_iast hC hr (j := 6) ⟨rfl, by omega, by omega⟩ d_Law_law_1301 (g1 := fun b9 => nI (updN gr6 (6) (d % 2) b9)) (x_updN _ _ _) ?_
        generalize egr7 : updN gr6 (6) (d % 2) = gr7
        generalize e15 : xup F13 (z1) (.inr (0, 7, fun b9 => .int (nI (gr7 b9)))) = F15
        have hM : xMC F15 (cm) (b) (M) := xMC_fr hM (fun a9 q1 q2 => by rw [← e15]; exact xup_ne (by omega))
        have hr : F15 (z1) = some (.inr (0, 7, fun b9 => .int (nI (gr7 b9)))) := by rw [← e15]; exact xup_eq
        have hr9 : ∀ j, j < 7 → gr7 j = rgt d j := by
          intro j hj
          rw [← egr7, ← egr6, ← egr5, ← egr4, ← egr3, ← egr2, ← egr1]
          rcases (show j = 0 ∨ j = 1 ∨ j = 2 ∨ j = 3 ∨ j = 4 ∨ j = 5 ∨ j = 6 by omega) with rfl | rfl | rfl | rfl | rfl | rfl | rfl <;> rfl
        refine x_astore hC d_Law_law_1302 (Nat.le_of_ble_eq_true rfl) (L1 := [some (.ref a), some (.ref b), some (.int (nI (T))), none, none, none, some (.int (nI (A.2.2.1.1))), none, none, some (.int (nI (dmgN A.2.2.2.1.2.1 i))), some (.int (nI (A.2.2.2.1.1))), some (.int (nI (i))), some (.int (nI (sy))), some (.int (nI (d))), some (.int (nI 0)), some (.int (nI (d / 8 % 2))), some (.int (nI (d / 4 % 2))), some (.int (nI (d / 2 % 2))), some (.int (nI (d % 2))), some (.ref z1), none, none]) rfl ?_
        refine x_iconst hC d_Law_law_1304 (v := nI 0) (by decide) ?_
        refine x_istore hC d_Law_law_1305 (Nat.le_of_ble_eq_true rfl) (L1 := [some (.ref a), some (.ref b), some (.int (nI (T))), none, none, none, some (.int (nI (A.2.2.1.1))), none, none, some (.int (nI (dmgN A.2.2.2.1.2.1 i))), some (.int (nI (A.2.2.2.1.1))), some (.int (nI (i))), some (.int (nI (sy))), some (.int (nI (d))), some (.int (nI 0)), some (.int (nI (d / 8 % 2))), some (.int (nI (d / 4 % 2))), some (.int (nI (d / 2 % 2))), some (.int (nI (d % 2))), some (.ref z1), some (.int (nI 0)), none]) rfl ?_
        have loop_1307 : ∀ (m9 : Nat) (Fh1307 : xF) (j : Nat) (u : Nat), (xMC Fh1307 (cm) (b) (M)) → (Fh1307 (z1) = some (.inr (0, 7, fun b9 => .int (nI (gr7 b9))))) → (j ≤ 7) → ((u = 1 ∧ 1 ≤ sy ∧ sy ≤ j) ∨ (u = 0 ∧ (sy = 0 ∨ j < sy))) → (7 - j < m9) → xX P Θ 1307 [some (.ref a), some (.ref b), some (.int (nI (T))), none, none, none, some (.int (nI (A.2.2.1.1))), none, none, some (.int (nI (dmgN A.2.2.2.1.2.1 i))), some (.int (nI (A.2.2.2.1.1))), some (.int (nI (i))), some (.int (nI (sy))), some (.int (nI (d))), some (.int (nI (u))), some (.int (nI (d / 8 % 2))), some (.int (nI (d / 4 % 2))), some (.int (nI (d / 2 % 2))), some (.int (nI (d % 2))), some (.ref z1), some (.int (nI (j))), none] [] Fh1307 (z1 + 1) (k + 15 + 30 * i + j) (n + 120 + 200 * i + 6 * j) := by
          intro m9
          induction m9 with
          | zero => intros; omega
          | succ m9 ih_1307 =>
            intro Fh1307 j u hM hr hj hu hm_1307
            refine x_iload hC d_Law_law_1307 rfl ?_
            refine x_bipush hC d_Law_law_1309 (v := nI 7) (by decide) ?_
            refine x_icmpN_ge hC d_Law_law_1311 (tgt := 1383) (by decide) (by omega) (by omega) (fun c_1311 => ?_) (fun c_1311 => ?_)
            · skip
              refine x_iload hC d_Law_law_1383 rfl ?_
              refine x_ifN_lt hC d_Law_law_1385 (tgt := 1421) (by decide) (by omega) (fun c_1385 => ?_) (fun c_1385 => ?_)
              · skip
                exact c_1385.elim
              · skip
                refine x_iload hC d_Law_law_1388 rfl ?_
                refine x_bipush hC d_Law_law_1390 (v := nI 7) (by decide) ?_
                refine x_icmpN_gt hC d_Law_law_1392 (tgt := 1421) (by decide) (by omega) (by omega) (fun c_1392 => ?_) (fun c_1392 => ?_)
                · skip
                  exact absurd c_1392 (by omega)
                · skip
                  refine x_iload hC d_Law_law_1395 rfl ?_
                  refine x_iload hC d_Law_law_1397 rfl ?_
                  refine x_ifN_ne hC d_Law_law_1399 (tgt := 1406) (by decide) (by omega) (fun c_1399 => ?_) (fun c_1399 => ?_)
                  · skip
                    refine x_iconst hC d_Law_law_1406 (v := nI 1) (by decide) ?_
                    refine x_icmpN_ne hC d_Law_law_1407 (tgt := 1421) (by decide) (by omega) (by omega) (fun c_1407 => ?_) (fun c_1407 => ?_)
                    · skip
                      exact absurd c_1407 (by omega)
                    · skip
                      refine x_aload_n hC d_Law_law_1410 rfl rfl ?_
                      refine x_iload hC d_Law_law_1411 rfl ?_
                      obtain ⟨b0, -⟩ := id hM
                      refine x_callV hC kv_Law_255 (c_MessageCoder_correctedBitsByDistanceK (hM := hM) (hA := hA) (hZx := hZx) (n0 := by omega) (A := A)) b0 rfl rfl (by decide) rfl rfl rfl (Nat.le_of_ble_eq_true rfl) ⟨by omega, by omega⟩ d_Law_law_1413 (fun r9 F9 z9 hp9 => ?_)
                      obtain ⟨rfl, h9b, h9c⟩ := hp9
                      rw [h9b, h9c]
                      clear h9b h9c F9 z9
                      refine x_top (v := (nI (d))) (by rw [hx, hd]) ?_
                      refine x_iload hC d_Law_law_1416 rfl ?_
                      refine x_icmpN_eq hC d_Law_law_1418 (tgt := 1423) (by decide) (by omega) (by omega) (fun c_1418 => ?_) (fun c_1418 => ?_)
                      · skip
                        refine x_iload hC d_Law_law_1423 rfl ?_
                        refine x_iload hC d_Law_law_1425 rfl ?_
                        refine x_ifN_ne hC d_Law_law_1427 (tgt := 1434) (by decide) (by omega) (fun c_1427 => ?_) (fun c_1427 => ?_)
                        · skip
                          refine x_iconst hC d_Law_law_1434 (v := nI 1) (by decide) ?_
                          refine x_iadd hC d_Law_law_1435 (v := (nI (dmgN A.2.2.2.1.2.1 i + 1))) (x_addN (by omega)) ?_
                          refine x_top (v := (nI (dmgN A.2.2.2.1.2.1 (i + 1)))) (by rw [dmgN, hx, hsy, if_neg (by omega)]) ?_
                          refine x_istore hC d_Law_law_1436 (Nat.le_of_ble_eq_true rfl) (L1 := [some (.ref a), some (.ref b), some (.int (nI (T))), none, none, none, some (.int (nI (A.2.2.1.1))), none, none, some (.int (nI (dmgN A.2.2.2.1.2.1 (i + 1)))), some (.int (nI (A.2.2.2.1.1))), some (.int (nI (i))), some (.int (nI (sy))), some (.int (nI (d))), some (.int (nI (u))), some (.int (nI (d / 8 % 2))), some (.int (nI (d / 4 % 2))), some (.int (nI (d / 2 % 2))), some (.int (nI (d % 2))), some (.ref z1), some (.int (nI (j))), none]) rfl ?_
                          refine x_iinc hC d_Law_law_1438 rfl (v := (nI (i + 1))) (x_incN 1) (Nat.le_of_ble_eq_true rfl) (L1 := [some (.ref a), some (.ref b), some (.int (nI (T))), none, none, none, some (.int (nI (A.2.2.1.1))), none, none, some (.int (nI (dmgN A.2.2.2.1.2.1 (i + 1)))), some (.int (nI (A.2.2.2.1.1))), some (.int (nI (i + 1))), some (.int (nI (sy))), some (.int (nI (d))), some (.int (nI (u))), some (.int (nI (d / 8 % 2))), some (.int (nI (d / 4 % 2))), some (.int (nI (d / 2 % 2))), some (.int (nI (d % 2))), some (.ref z1), some (.int (nI (j))), none]) rfl ?_
                          refine x_goto hC d_Law_law_1441 (tgt := 1188) (by decide) ?_
                          refine x_forget (L1 := [some (.ref a), some (.ref b), some (.int (nI (T))), none, none, none, some (.int (nI (A.2.2.1.1))), none, none, some (.int (nI (dmgN A.2.2.2.1.2.1 (i + 1)))), some (.int (nI (A.2.2.2.1.1))), some (.int (nI (i + 1))), none, none, none, none, none, none, none, none, none, none]) ⟨Or.inr rfl, ⟨Or.inr rfl, ⟨Or.inr rfl, ⟨Or.inl rfl, ⟨Or.inl rfl, ⟨Or.inl rfl, ⟨Or.inr rfl, ⟨Or.inl rfl, ⟨Or.inl rfl, ⟨Or.inr rfl, ⟨Or.inr rfl, ⟨Or.inr rfl, ⟨Or.inl rfl, ⟨Or.inl rfl, ⟨Or.inl rfl, ⟨Or.inl rfl, ⟨Or.inl rfl, ⟨Or.inl rfl, ⟨Or.inl rfl, ⟨Or.inl rfl, ⟨Or.inl rfl, ⟨Or.inl rfl, trivial⟩⟩⟩⟩⟩⟩⟩⟩⟩⟩⟩⟩⟩⟩⟩⟩⟩⟩⟩⟩⟩⟩ ?_
                          refine x_widen (k1 := k + 10 + 30 * (i + 1)) (n1 := n + 100 + 200 * (i + 1)) (by omega) (by omega) ?_
                          exact ih_1188 Fh1307 (i + 1) (z1 + 1) hM (by omega) (by omega) (by omega)
                        · skip
                          refine x_iconst hC d_Law_law_1430 (v := nI 0) (by decide) ?_
                          refine x_goto hC d_Law_law_1431 (tgt := 1435) (by decide) ?_
                          refine x_iadd hC d_Law_law_1435 (v := (nI (dmgN A.2.2.2.1.2.1 i))) (x_addN (by omega)) ?_
                          refine x_top (v := (nI (dmgN A.2.2.2.1.2.1 (i + 1)))) (by rw [dmgN, hx, hsy, if_pos (by omega)]) ?_
                          refine x_istore hC d_Law_law_1436 (Nat.le_of_ble_eq_true rfl) (L1 := [some (.ref a), some (.ref b), some (.int (nI (T))), none, none, none, some (.int (nI (A.2.2.1.1))), none, none, some (.int (nI (dmgN A.2.2.2.1.2.1 (i + 1)))), some (.int (nI (A.2.2.2.1.1))), some (.int (nI (i))), some (.int (nI (sy))), some (.int (nI (d))), some (.int (nI (u))), some (.int (nI (d / 8 % 2))), some (.int (nI (d / 4 % 2))), some (.int (nI (d / 2 % 2))), some (.int (nI (d % 2))), some (.ref z1), some (.int (nI (j))), none]) rfl ?_
                          refine x_iinc hC d_Law_law_1438 rfl (v := (nI (i + 1))) (x_incN 1) (Nat.le_of_ble_eq_true rfl) (L1 := [some (.ref a), some (.ref b), some (.int (nI (T))), none, none, none, some (.int (nI (A.2.2.1.1))), none, none, some (.int (nI (dmgN A.2.2.2.1.2.1 (i + 1)))), some (.int (nI (A.2.2.2.1.1))), some (.int (nI (i + 1))), some (.int (nI (sy))), some (.int (nI (d))), some (.int (nI (u))), some (.int (nI (d / 8 % 2))), some (.int (nI (d / 4 % 2))), some (.int (nI (d / 2 % 2))), some (.int (nI (d % 2))), some (.ref z1), some (.int (nI (j))), none]) rfl ?_
                          refine x_goto hC d_Law_law_1441 (tgt := 1188) (by decide) ?_
                          refine x_forget (L1 := [some (.ref a), some (.ref b), some (.int (nI (T))), none, none, none, some (.int (nI (A.2.2.1.1))), none, none, some (.int (nI (dmgN A.2.2.2.1.2.1 (i + 1)))), some (.int (nI (A.2.2.2.1.1))), some (.int (nI (i + 1))), none, none, none, none, none, none, none, none, none, none]) ⟨Or.inr rfl, ⟨Or.inr rfl, ⟨Or.inr rfl, ⟨Or.inl rfl, ⟨Or.inl rfl, ⟨Or.inl rfl, ⟨Or.inr rfl, ⟨Or.inl rfl, ⟨Or.inl rfl, ⟨Or.inr rfl, ⟨Or.inr rfl, ⟨Or.inr rfl, ⟨Or.inl rfl, ⟨Or.inl rfl, ⟨Or.inl rfl, ⟨Or.inl rfl, ⟨Or.inl rfl, ⟨Or.inl rfl, ⟨Or.inl rfl, ⟨Or.inl rfl, ⟨Or.inl rfl, ⟨Or.inl rfl, trivial⟩⟩⟩⟩⟩⟩⟩⟩⟩⟩⟩⟩⟩⟩⟩⟩⟩⟩⟩⟩⟩⟩ ?_
                          refine x_widen (k1 := k + 10 + 30 * (i + 1)) (n1 := n + 100 + 200 * (i + 1)) (by omega) (by omega) ?_
                          exact ih_1188 Fh1307 (i + 1) (z1 + 1) hM (by omega) (by omega) (by omega)
                      · skip
                        exact absurd c_1418 (by omega)
                  · skip
                    refine x_iconst hC d_Law_law_1402 (v := nI 0) (by decide) ?_
                    refine x_goto hC d_Law_law_1403 (tgt := 1407) (by decide) ?_
                    refine x_icmpN_ne hC d_Law_law_1407 (tgt := 1421) (by decide) (by omega) (by omega) (fun c_1407 => ?_) (fun c_1407 => ?_)
                    · skip
                      exact absurd c_1407 (by omega)
                    · skip
                      refine x_aload_n hC d_Law_law_1410 rfl rfl ?_
                      refine x_iload hC d_Law_law_1411 rfl ?_
                      obtain ⟨b0, -⟩ := id hM
                      refine x_callV hC kv_Law_255 (c_MessageCoder_correctedBitsByDistanceK (hM := hM) (hA := hA) (hZx := hZx) (n0 := by omega) (A := A)) b0 rfl rfl (by decide) rfl rfl rfl (Nat.le_of_ble_eq_true rfl) ⟨by omega, by omega⟩ d_Law_law_1413 (fun r9 F9 z9 hp9 => ?_)
                      obtain ⟨rfl, h9b, h9c⟩ := hp9
                      rw [h9b, h9c]
                      clear h9b h9c F9 z9
                      refine x_top (v := (nI (d))) (by rw [hx, hd]) ?_
                      refine x_iload hC d_Law_law_1416 rfl ?_
                      refine x_icmpN_eq hC d_Law_law_1418 (tgt := 1423) (by decide) (by omega) (by omega) (fun c_1418 => ?_) (fun c_1418 => ?_)
                      · skip
                        refine x_iload hC d_Law_law_1423 rfl ?_
                        refine x_iload hC d_Law_law_1425 rfl ?_
                        refine x_ifN_ne hC d_Law_law_1427 (tgt := 1434) (by decide) (by omega) (fun c_1427 => ?_) (fun c_1427 => ?_)
                        · skip
                          refine x_iconst hC d_Law_law_1434 (v := nI 1) (by decide) ?_
                          refine x_iadd hC d_Law_law_1435 (v := (nI (dmgN A.2.2.2.1.2.1 i + 1))) (x_addN (by omega)) ?_
                          refine x_top (v := (nI (dmgN A.2.2.2.1.2.1 (i + 1)))) (by rw [dmgN, hx, hsy, if_neg (by omega)]) ?_
                          refine x_istore hC d_Law_law_1436 (Nat.le_of_ble_eq_true rfl) (L1 := [some (.ref a), some (.ref b), some (.int (nI (T))), none, none, none, some (.int (nI (A.2.2.1.1))), none, none, some (.int (nI (dmgN A.2.2.2.1.2.1 (i + 1)))), some (.int (nI (A.2.2.2.1.1))), some (.int (nI (i))), some (.int (nI (sy))), some (.int (nI (d))), some (.int (nI (u))), some (.int (nI (d / 8 % 2))), some (.int (nI (d / 4 % 2))), some (.int (nI (d / 2 % 2))), some (.int (nI (d % 2))), some (.ref z1), some (.int (nI (j))), none]) rfl ?_
                          refine x_iinc hC d_Law_law_1438 rfl (v := (nI (i + 1))) (x_incN 1) (Nat.le_of_ble_eq_true rfl) (L1 := [some (.ref a), some (.ref b), some (.int (nI (T))), none, none, none, some (.int (nI (A.2.2.1.1))), none, none, some (.int (nI (dmgN A.2.2.2.1.2.1 (i + 1)))), some (.int (nI (A.2.2.2.1.1))), some (.int (nI (i + 1))), some (.int (nI (sy))), some (.int (nI (d))), some (.int (nI (u))), some (.int (nI (d / 8 % 2))), some (.int (nI (d / 4 % 2))), some (.int (nI (d / 2 % 2))), some (.int (nI (d % 2))), some (.ref z1), some (.int (nI (j))), none]) rfl ?_
                          refine x_goto hC d_Law_law_1441 (tgt := 1188) (by decide) ?_
                          refine x_forget (L1 := [some (.ref a), some (.ref b), some (.int (nI (T))), none, none, none, some (.int (nI (A.2.2.1.1))), none, none, some (.int (nI (dmgN A.2.2.2.1.2.1 (i + 1)))), some (.int (nI (A.2.2.2.1.1))), some (.int (nI (i + 1))), none, none, none, none, none, none, none, none, none, none]) ⟨Or.inr rfl, ⟨Or.inr rfl, ⟨Or.inr rfl, ⟨Or.inl rfl, ⟨Or.inl rfl, ⟨Or.inl rfl, ⟨Or.inr rfl, ⟨Or.inl rfl, ⟨Or.inl rfl, ⟨Or.inr rfl, ⟨Or.inr rfl, ⟨Or.inr rfl, ⟨Or.inl rfl, ⟨Or.inl rfl, ⟨Or.inl rfl, ⟨Or.inl rfl, ⟨Or.inl rfl, ⟨Or.inl rfl, ⟨Or.inl rfl, ⟨Or.inl rfl, ⟨Or.inl rfl, ⟨Or.inl rfl, trivial⟩⟩⟩⟩⟩⟩⟩⟩⟩⟩⟩⟩⟩⟩⟩⟩⟩⟩⟩⟩⟩⟩ ?_
                          refine x_widen (k1 := k + 10 + 30 * (i + 1)) (n1 := n + 100 + 200 * (i + 1)) (by omega) (by omega) ?_
                          exact ih_1188 Fh1307 (i + 1) (z1 + 1) hM (by omega) (by omega) (by omega)
                        · skip
                          refine x_iconst hC d_Law_law_1430 (v := nI 0) (by decide) ?_
                          refine x_goto hC d_Law_law_1431 (tgt := 1435) (by decide) ?_
                          refine x_iadd hC d_Law_law_1435 (v := (nI (dmgN A.2.2.2.1.2.1 i))) (x_addN (by omega)) ?_
                          refine x_top (v := (nI (dmgN A.2.2.2.1.2.1 (i + 1)))) (by rw [dmgN, hx, hsy, if_pos (by omega)]) ?_
                          refine x_istore hC d_Law_law_1436 (Nat.le_of_ble_eq_true rfl) (L1 := [some (.ref a), some (.ref b), some (.int (nI (T))), none, none, none, some (.int (nI (A.2.2.1.1))), none, none, some (.int (nI (dmgN A.2.2.2.1.2.1 (i + 1)))), some (.int (nI (A.2.2.2.1.1))), some (.int (nI (i))), some (.int (nI (sy))), some (.int (nI (d))), some (.int (nI (u))), some (.int (nI (d / 8 % 2))), some (.int (nI (d / 4 % 2))), some (.int (nI (d / 2 % 2))), some (.int (nI (d % 2))), some (.ref z1), some (.int (nI (j))), none]) rfl ?_
                          refine x_iinc hC d_Law_law_1438 rfl (v := (nI (i + 1))) (x_incN 1) (Nat.le_of_ble_eq_true rfl) (L1 := [some (.ref a), some (.ref b), some (.int (nI (T))), none, none, none, some (.int (nI (A.2.2.1.1))), none, none, some (.int (nI (dmgN A.2.2.2.1.2.1 (i + 1)))), some (.int (nI (A.2.2.2.1.1))), some (.int (nI (i + 1))), some (.int (nI (sy))), some (.int (nI (d))), some (.int (nI (u))), some (.int (nI (d / 8 % 2))), some (.int (nI (d / 4 % 2))), some (.int (nI (d / 2 % 2))), some (.int (nI (d % 2))), some (.ref z1), some (.int (nI (j))), none]) rfl ?_
                          refine x_goto hC d_Law_law_1441 (tgt := 1188) (by decide) ?_
                          refine x_forget (L1 := [some (.ref a), some (.ref b), some (.int (nI (T))), none, none, none, some (.int (nI (A.2.2.1.1))), none, none, some (.int (nI (dmgN A.2.2.2.1.2.1 (i + 1)))), some (.int (nI (A.2.2.2.1.1))), some (.int (nI (i + 1))), none, none, none, none, none, none, none, none, none, none]) ⟨Or.inr rfl, ⟨Or.inr rfl, ⟨Or.inr rfl, ⟨Or.inl rfl, ⟨Or.inl rfl, ⟨Or.inl rfl, ⟨Or.inr rfl, ⟨Or.inl rfl, ⟨Or.inl rfl, ⟨Or.inr rfl, ⟨Or.inr rfl, ⟨Or.inr rfl, ⟨Or.inl rfl, ⟨Or.inl rfl, ⟨Or.inl rfl, ⟨Or.inl rfl, ⟨Or.inl rfl, ⟨Or.inl rfl, ⟨Or.inl rfl, ⟨Or.inl rfl, ⟨Or.inl rfl, ⟨Or.inl rfl, trivial⟩⟩⟩⟩⟩⟩⟩⟩⟩⟩⟩⟩⟩⟩⟩⟩⟩⟩⟩⟩⟩⟩ ?_
                          refine x_widen (k1 := k + 10 + 30 * (i + 1)) (n1 := n + 100 + 200 * (i + 1)) (by omega) (by omega) ?_
                          exact ih_1188 Fh1307 (i + 1) (z1 + 1) hM (by omega) (by omega) (by omega)
                      · skip
                        exact absurd c_1418 (by omega)
            · skip
              have hq := blk_one x hx8 j (by omega)
              have hgj := hr9 j (by omega)
              have hg1 := rgt_lt d hd16 j (by omega)
              have hb1 := bitP_1 x (j + 1)
              rw [hd, hsy, ← hgj] at hq
              rw [← hgj] at hg1
              refine x_aload_n hC d_Law_law_1314 rfl rfl ?_
              refine x_bipush hC d_Law_law_1315 (v := nI 7) (by decide) ?_
              refine x_iload hC d_Law_law_1317 rfl ?_
              refine x_imul hC d_Law_law_1319 (v := (nI ((7) * (i)))) (pk_mul _ _) ?_
              refine x_iload hC d_Law_law_1320 rfl ?_
              refine x_iadd hC d_Law_law_1322 (v := (nI ((7) * (i) + j))) (x_addN (by omega)) ?_
              obtain ⟨b0, -⟩ := id hM
              refine x_callV hC kv_Law_65 (c_MessageCoder_frameBitK (hM := hM) (hA := hA) (hZx := hZx) (n0 := by omega) (A := A)) b0 rfl rfl (by decide) rfl rfl rfl (Nat.le_of_ble_eq_true rfl) ⟨by omega, by omega⟩ d_Law_law_1323 (fun r9 F9 z9 hp9 => ?_)
              obtain ⟨rfl, h9b, h9c⟩ := hp9
              rw [h9b, h9c]
              clear h9b h9c F9 z9
              refine x_top (v := (nI (bitP x (j + 1)))) (by rw [show (7 * i + j) / 7 = i by omega, show (7 * i + j) % 7 = j by omega, hx]) ?_
              refine x_aload hC d_Law_law_1326 rfl ?_
              refine x_iload hC d_Law_law_1328 rfl ?_
              refine x_iald hC hr (j := j) ⟨rfl, by omega, by omega⟩ (x := nI (gr7 (j))) rfl d_Law_law_1330 ?_
              refine x_icmpN_eq hC d_Law_law_1331 (tgt := 1338) (by decide) (by omega) (by omega) (fun c_1331 => ?_) (fun c_1331 => ?_)
              · skip
                refine x_iconst hC d_Law_law_1338 (v := nI 0) (by decide) ?_
                refine x_istore hC d_Law_law_1339 (Nat.le_of_ble_eq_true rfl) (L1 := [some (.ref a), some (.ref b), some (.int (nI (T))), none, none, none, some (.int (nI (A.2.2.1.1))), none, none, some (.int (nI (dmgN A.2.2.2.1.2.1 i))), some (.int (nI (A.2.2.2.1.1))), some (.int (nI (i))), some (.int (nI (sy))), some (.int (nI (d))), some (.int (nI (u))), some (.int (nI (d / 8 % 2))), some (.int (nI (d / 4 % 2))), some (.int (nI (d / 2 % 2))), some (.int (nI (d % 2))), some (.ref z1), some (.int (nI (j))), some (.int (nI 0))]) rfl ?_
                refine x_iload hC d_Law_law_1341 rfl ?_
                refine x_iload hC d_Law_law_1343 rfl ?_
                refine x_ifN_eq hC d_Law_law_1345 (tgt := 1352) (by decide) (by omega) (fun c_1345 => ?_) (fun c_1345 => ?_)
                · skip
                  refine x_iconst hC d_Law_law_1352 (v := nI 0) (by decide) ?_
                  refine x_iadd hC d_Law_law_1353 (v := (nI (u))) (x_addN (by omega)) ?_
                  refine x_istore hC d_Law_law_1354 (Nat.le_of_ble_eq_true rfl) (L1 := [some (.ref a), some (.ref b), some (.int (nI (T))), none, none, none, some (.int (nI (A.2.2.1.1))), none, none, some (.int (nI (dmgN A.2.2.2.1.2.1 i))), some (.int (nI (A.2.2.2.1.1))), some (.int (nI (i))), some (.int (nI (sy))), some (.int (nI (d))), some (.int (nI (u))), some (.int (nI (d / 8 % 2))), some (.int (nI (d / 4 % 2))), some (.int (nI (d / 2 % 2))), some (.int (nI (d % 2))), some (.ref z1), some (.int (nI (j))), some (.int (nI 0))]) rfl ?_
                  refine x_iload hC d_Law_law_1356 rfl ?_
                  refine x_iload hC d_Law_law_1358 rfl ?_
                  refine x_iload hC d_Law_law_1360 rfl ?_
                  refine x_iconst hC d_Law_law_1362 (v := nI 1) (by decide) ?_
                  refine x_iadd hC d_Law_law_1363 (v := (nI (j + 1))) (x_addN (by omega)) ?_
                  refine x_icmpN_ne hC d_Law_law_1364 (tgt := 1371) (by decide) (by omega) (by omega) (fun c_1364 => ?_) (fun c_1364 => ?_)
                  · skip
                    refine x_iconst hC d_Law_law_1371 (v := nI 0) (by decide) ?_
                    refine x_icmpN_eq hC d_Law_law_1372 (tgt := 1377) (by decide) (by omega) (by omega) (fun c_1372 => ?_) (fun c_1372 => ?_)
                    · skip
                      refine x_iinc hC d_Law_law_1377 rfl (v := (nI (j + 1))) (x_incN 1) (Nat.le_of_ble_eq_true rfl) (L1 := [some (.ref a), some (.ref b), some (.int (nI (T))), none, none, none, some (.int (nI (A.2.2.1.1))), none, none, some (.int (nI (dmgN A.2.2.2.1.2.1 i))), some (.int (nI (A.2.2.2.1.1))), some (.int (nI (i))), some (.int (nI (sy))), some (.int (nI (d))), some (.int (nI (u))), some (.int (nI (d / 8 % 2))), some (.int (nI (d / 4 % 2))), some (.int (nI (d / 2 % 2))), some (.int (nI (d % 2))), some (.ref z1), some (.int (nI (j + 1))), some (.int (nI 0))]) rfl ?_
                      refine x_goto hC d_Law_law_1380 (tgt := 1307) (by decide) ?_
                      refine x_forget (L1 := [some (.ref a), some (.ref b), some (.int (nI (T))), none, none, none, some (.int (nI (A.2.2.1.1))), none, none, some (.int (nI (dmgN A.2.2.2.1.2.1 i))), some (.int (nI (A.2.2.2.1.1))), some (.int (nI (i))), some (.int (nI (sy))), some (.int (nI (d))), some (.int (nI (u))), some (.int (nI (d / 8 % 2))), some (.int (nI (d / 4 % 2))), some (.int (nI (d / 2 % 2))), some (.int (nI (d % 2))), some (.ref z1), some (.int (nI (j + 1))), none]) ⟨Or.inr rfl, ⟨Or.inr rfl, ⟨Or.inr rfl, ⟨Or.inl rfl, ⟨Or.inl rfl, ⟨Or.inl rfl, ⟨Or.inr rfl, ⟨Or.inl rfl, ⟨Or.inl rfl, ⟨Or.inr rfl, ⟨Or.inr rfl, ⟨Or.inr rfl, ⟨Or.inr rfl, ⟨Or.inr rfl, ⟨Or.inr rfl, ⟨Or.inr rfl, ⟨Or.inr rfl, ⟨Or.inr rfl, ⟨Or.inr rfl, ⟨Or.inr rfl, ⟨Or.inr rfl, ⟨Or.inl rfl, trivial⟩⟩⟩⟩⟩⟩⟩⟩⟩⟩⟩⟩⟩⟩⟩⟩⟩⟩⟩⟩⟩⟩ ?_
                      refine x_widen (k1 := k + 15 + 30 * i + (j + 1)) (n1 := n + 120 + 200 * i + 6 * (j + 1)) (by omega) (by omega) ?_
                      exact ih_1307 Fh1307 (j + 1) (u) hM hr (by omega) (by omega) (by omega)
                    · skip
                      exact absurd c_1372 (by omega)
                  · skip
                    refine x_iconst hC d_Law_law_1367 (v := nI 1) (by decide) ?_
                    refine x_goto hC d_Law_law_1368 (tgt := 1372) (by decide) ?_
                    refine x_icmpN_eq hC d_Law_law_1372 (tgt := 1377) (by decide) (by omega) (by omega) (fun c_1372 => ?_) (fun c_1372 => ?_)
                    · skip
                      exact absurd c_1372 (by omega)
                    · skip
                      exfalso
                      omega
                · skip
                  exact absurd c_1345 (by omega)
              · skip
                refine x_iconst hC d_Law_law_1334 (v := nI 1) (by decide) ?_
                refine x_goto hC d_Law_law_1335 (tgt := 1339) (by decide) ?_
                refine x_istore hC d_Law_law_1339 (Nat.le_of_ble_eq_true rfl) (L1 := [some (.ref a), some (.ref b), some (.int (nI (T))), none, none, none, some (.int (nI (A.2.2.1.1))), none, none, some (.int (nI (dmgN A.2.2.2.1.2.1 i))), some (.int (nI (A.2.2.2.1.1))), some (.int (nI (i))), some (.int (nI (sy))), some (.int (nI (d))), some (.int (nI (u))), some (.int (nI (d / 8 % 2))), some (.int (nI (d / 4 % 2))), some (.int (nI (d / 2 % 2))), some (.int (nI (d % 2))), some (.ref z1), some (.int (nI (j))), some (.int (nI 1))]) rfl ?_
                refine x_iload hC d_Law_law_1341 rfl ?_
                refine x_iload hC d_Law_law_1343 rfl ?_
                refine x_ifN_eq hC d_Law_law_1345 (tgt := 1352) (by decide) (by omega) (fun c_1345 => ?_) (fun c_1345 => ?_)
                · skip
                  exact absurd c_1345 (by omega)
                · skip
                  refine x_iconst hC d_Law_law_1348 (v := nI 1) (by decide) ?_
                  refine x_goto hC d_Law_law_1349 (tgt := 1353) (by decide) ?_
                  refine x_iadd hC d_Law_law_1353 (v := (nI (u + 1))) (x_addN (by omega)) ?_
                  refine x_istore hC d_Law_law_1354 (Nat.le_of_ble_eq_true rfl) (L1 := [some (.ref a), some (.ref b), some (.int (nI (T))), none, none, none, some (.int (nI (A.2.2.1.1))), none, none, some (.int (nI (dmgN A.2.2.2.1.2.1 i))), some (.int (nI (A.2.2.2.1.1))), some (.int (nI (i))), some (.int (nI (sy))), some (.int (nI (d))), some (.int (nI (u + 1))), some (.int (nI (d / 8 % 2))), some (.int (nI (d / 4 % 2))), some (.int (nI (d / 2 % 2))), some (.int (nI (d % 2))), some (.ref z1), some (.int (nI (j))), some (.int (nI 1))]) rfl ?_
                  refine x_iload hC d_Law_law_1356 rfl ?_
                  refine x_iload hC d_Law_law_1358 rfl ?_
                  refine x_iload hC d_Law_law_1360 rfl ?_
                  refine x_iconst hC d_Law_law_1362 (v := nI 1) (by decide) ?_
                  refine x_iadd hC d_Law_law_1363 (v := (nI (j + 1))) (x_addN (by omega)) ?_
                  refine x_icmpN_ne hC d_Law_law_1364 (tgt := 1371) (by decide) (by omega) (by omega) (fun c_1364 => ?_) (fun c_1364 => ?_)
                  · skip
                    refine x_iconst hC d_Law_law_1371 (v := nI 0) (by decide) ?_
                    refine x_icmpN_eq hC d_Law_law_1372 (tgt := 1377) (by decide) (by omega) (by omega) (fun c_1372 => ?_) (fun c_1372 => ?_)
                    · skip
                      exact absurd c_1372 (by omega)
                    · skip
                      exfalso
                      omega
                  · skip
                    refine x_iconst hC d_Law_law_1367 (v := nI 1) (by decide) ?_
                    refine x_goto hC d_Law_law_1368 (tgt := 1372) (by decide) ?_
                    refine x_icmpN_eq hC d_Law_law_1372 (tgt := 1377) (by decide) (by omega) (by omega) (fun c_1372 => ?_) (fun c_1372 => ?_)
                    · skip
                      refine x_iinc hC d_Law_law_1377 rfl (v := (nI (j + 1))) (x_incN 1) (Nat.le_of_ble_eq_true rfl) (L1 := [some (.ref a), some (.ref b), some (.int (nI (T))), none, none, none, some (.int (nI (A.2.2.1.1))), none, none, some (.int (nI (dmgN A.2.2.2.1.2.1 i))), some (.int (nI (A.2.2.2.1.1))), some (.int (nI (i))), some (.int (nI (sy))), some (.int (nI (d))), some (.int (nI (u + 1))), some (.int (nI (d / 8 % 2))), some (.int (nI (d / 4 % 2))), some (.int (nI (d / 2 % 2))), some (.int (nI (d % 2))), some (.ref z1), some (.int (nI (j + 1))), some (.int (nI 1))]) rfl ?_
                      refine x_goto hC d_Law_law_1380 (tgt := 1307) (by decide) ?_
                      refine x_forget (L1 := [some (.ref a), some (.ref b), some (.int (nI (T))), none, none, none, some (.int (nI (A.2.2.1.1))), none, none, some (.int (nI (dmgN A.2.2.2.1.2.1 i))), some (.int (nI (A.2.2.2.1.1))), some (.int (nI (i))), some (.int (nI (sy))), some (.int (nI (d))), some (.int (nI (u + 1))), some (.int (nI (d / 8 % 2))), some (.int (nI (d / 4 % 2))), some (.int (nI (d / 2 % 2))), some (.int (nI (d % 2))), some (.ref z1), some (.int (nI (j + 1))), none]) ⟨Or.inr rfl, ⟨Or.inr rfl, ⟨Or.inr rfl, ⟨Or.inl rfl, ⟨Or.inl rfl, ⟨Or.inl rfl, ⟨Or.inr rfl, ⟨Or.inl rfl, ⟨Or.inl rfl, ⟨Or.inr rfl, ⟨Or.inr rfl, ⟨Or.inr rfl, ⟨Or.inr rfl, ⟨Or.inr rfl, ⟨Or.inr rfl, ⟨Or.inr rfl, ⟨Or.inr rfl, ⟨Or.inr rfl, ⟨Or.inr rfl, ⟨Or.inr rfl, ⟨Or.inr rfl, ⟨Or.inl rfl, trivial⟩⟩⟩⟩⟩⟩⟩⟩⟩⟩⟩⟩⟩⟩⟩⟩⟩⟩⟩⟩⟩⟩ ?_
                      refine x_widen (k1 := k + 15 + 30 * i + (j + 1)) (n1 := n + 120 + 200 * i + 6 * (j + 1)) (by omega) (by omega) ?_
                      exact ih_1307 Fh1307 (j + 1) (u + 1) hM hr (by omega) (by omega) (by omega)
                    · skip
                      exact absurd c_1372 (by omega)
        refine x_widen (k1 := k + 15 + 30 * i + 0) (n1 := n + 120 + 200 * i + 6 * 0) (by omega) (by omega) ?_
        exact loop_1307 (7 - 0 + 1) F15 (0) (0) hM hr (by omega) (by omega) (by omega)
  refine x_widen (k1 := k + 10 + 30 * 0) (n1 := n + 100 + 200 * 0) (by omega) (by omega) ?_
  exact loop_1188 (A.2.2.2.1.1 - 0 + 1) F (0) (z) hM (by omega) (Nat.le_refl z) (by omega)

