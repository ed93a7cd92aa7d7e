set_option maxHeartbeats 4000000 in
set_option maxRecDepth 20000 in
theorem l_m3 {P : xP} {Θ : xT} {fo : Nat} {o1 : Nat} {o2 : Nat} {rt : Nat} {cm : cmT} {sm : Nat} {a : Nat} {N : Nat} {xs : Nat → Int32} {qe : Nat} {qq : Nat} {qx : Nat} {qc : Nat} (hG : xGl P Θ fo o1 o2 rt cm sm a N xs qe qq qx qc) {b : Nat} {M : mcS} {A : aS} {q : Nat} {T : Nat} {ca : Nat} {ce : Nat} {i : Nat} {e : mS} {s14 : Nat} {s15 : Nat} {su : Nat} {F : xF} {z k n : Nat} (hM : xMC F (cm) (b) (M)) (hcs : xCs F (ca) (ce) (A.1) (8)) (ht : xTs F (s14) (txl e.2.2.2 e.2.2.1)) (hbt : xTs F (s15) (btl (hLen A.1) (hVal (hLen A.1)) e.2.2.2 e.2.2.1)) (hA : M.1 = A) (hB : pBd M q) (hq : q ≤ 900) (hz : b + 566 ≤ ca) (hce : ce ≤ z) (hi : i < A.2.2.1.1) (he : A.2.2.1.2.2 (mRk A (nI i)) = e) (hs14 : ce ≤ s14 ∧ s14 + 2 ≤ z) (hs15 : ce ≤ s15 ∧ s15 + 2 ≤ z) (hk : k + 5000 ≤ 644766) (hn : n + 500000 ≤ 7153085) (hsu : crcB (bitsN (hLen A.1) e.2.2.2 e.2.2.1) (splB (hLen A.1) (hVal (hLen A.1)) e.2.2.2 e.2.2.1) (bitsN (hLen A.1) e.2.2.2 e.2.2.1 + 4) = su) (kk : ∀ (F1 : xF) (z1 : Nat), xMC F1 cm b M → xCs F1 ca ce A.1 8 → xTs F1 s14 (txl e.2.2.2 e.2.2.1) → xTs F1 s15 (btl (hLen A.1) (hVal (hLen A.1)) e.2.2.2 e.2.2.1) → z ≤ z1 → xX P Θ 929 [some (.ref a), some (.ref b), some (.int (nI (T))), some (.int (nI (sumN (fun j => A.1 j * hLen A.1 j) 8))), some (.int (nI (sumN A.1 8))), some (.int (nI (maxN (hLen A.1) 8))), some (.int (nI (A.2.2.1.1))), some (.ref ca), none, some (.int (nI (i))), some (.int (nI (e.1))), some (.int (nI 0)), none, some (.int (nI (su))), some (.ref s14), some (.ref s15), none, none, none, none, none, none] [] F1 z1 (k + 1300) (n + 8000)) : xX P Θ 758 [some (.ref a), some (.ref b), some (.int (nI (T))), some (.int (nI (sumN (fun j => A.1 j * hLen A.1 j) 8))), some (.int (nI (sumN A.1 8))), some (.int (nI (maxN (hLen A.1) 8))), some (.int (nI (A.2.2.1.1))), some (.ref ca), none, some (.int (nI (i))), some (.int (nI (e.1))), some (.int (nI 0)), some (.int (nI 0)), some (.int (nI (su))), some (.ref s14), some (.ref s15), none, none, none, none, none, none] [] F (z) k n := by
  obtain ⟨hC, hZx, hNx, hJ, hD, hSR, hCM, hSM, hS, hE, hEo, hQ, hQo, hX, hXo, hK, hKo⟩ := hG
  have hI : pInv A := hA ▸ hB.1
  obtain ⟨⟨i1_, i2_, i3_, i4_, i5_⟩, iw, idr, im, io, ib, it⟩ := id hI
  have hcc := hcs.1
  obtain ⟨m1_, m2_, m3_, m4_⟩ := msg_at hI (by have := hB.2.2.2.1; rw [hA] at this; omega) hi
  rw [he] at m2_ m3_ m4_
  obtain ⟨e1_, e2_, e3_, e4_⟩ := id m4_
  have hnx : A.2.2.1.2.1 ≤ 900 := by have := hB.2.2.2.1; rw [hA] at this; omega
  have hb112 : bitsN (hLen A.1) e.2.2.2 e.2.2.1 ≤ 112 := Nat.le_trans (bitsN_le (fun j hj => hLen_7 A.1 hj) _ _) (by omega)
  have hf1 : ∀ j, j < bitsN (hLen A.1) e.2.2.2 e.2.2.1 → splB (hLen A.1) (hVal (hLen A.1)) e.2.2.2 e.2.2.1 j ≤ 1 := fun j _ => splB_le _ _ _ _ j
  have hs15_ : su ≤ 15 := by rw [← hsu]; exact crcB_15 hf1 _
  refine x_iconst hC d_Law_law_758 (v := nI 0) (by decide) ?_
  refine x_istore hC d_Law_law_759 (Nat.le_of_ble_eq_true rfl) (L1 := [some (.ref a), some (.ref b), some (.int (nI (T))), some (.int (nI (sumN (fun j => A.1 j * hLen A.1 j) 8))), some (.int (nI (sumN A.1 8))), some (.int (nI (maxN (hLen A.1) 8))), some (.int (nI (A.2.2.1.1))), some (.ref ca), none, some (.int (nI (i))), some (.int (nI (e.1))), some (.int (nI 0)), some (.int (nI 0)), some (.int (nI (su))), some (.ref s14), some (.ref s15), some (.int (nI 0)), none, none, none, none, none]) rfl ?_
  have loop_761 : ∀ (m9 : Nat) (Fh761 : xF) (j : Nat) (r : Nat), (xMC Fh761 (cm) (b) (M)) → (xCs Fh761 (ca) (ce) (A.1) (8)) → (xTs Fh761 (s14) (txl e.2.2.2 e.2.2.1)) → (xTs Fh761 (s15) (btl (hLen A.1) (hVal (hLen A.1)) e.2.2.2 e.2.2.1)) → (j ≤ bitsN (hLen A.1) e.2.2.2 e.2.2.1 + 4) → (r = rstB (bitsN (hLen A.1) e.2.2.2 e.2.2.1) (splB (hLen A.1) (hVal (hLen A.1)) e.2.2.2 e.2.2.1) su j) → (bitsN (hLen A.1) e.2.2.2 e.2.2.1 + 4 - j < m9) → xX P Θ 761 [some (.ref a), some (.ref b), some (.int (nI (T))), some (.int (nI (sumN (fun j => A.1 j * hLen A.1 j) 8))), some (.int (nI (sumN A.1 8))), some (.int (nI (maxN (hLen A.1) 8))), some (.int (nI (A.2.2.1.1))), some (.ref ca), none, some (.int (nI (i))), some (.int (nI (e.1))), some (.int (nI 0)), some (.int (nI (r))), some (.int (nI (su))), some (.ref s14), some (.ref s15), some (.int (nI (j))), none, none, none, none, none] [] Fh761 (z) (k + 10 + 10 * j) (n + 100 + 60 * j) := by
    intro m9
    induction m9 with
    | zero => intros; omega
    | succ m9 ih_761 =>
      intro Fh761 j r hM hcs ht hbt hj hr hm_761
      refine x_iload hC d_Law_law_761 rfl ?_
      refine x_aload hC d_Law_law_763 rfl ?_
      obtain ⟨u0, s0, -⟩ := id hbt
      refine x_callV hC kv_Law_119 (c_String_lengthL (hs := hbt) (hJ := hJ) (fo := fo)) s0 rfl rfl (by decide) rfl rfl rfl (Nat.le_of_ble_eq_true rfl) ⟨by omega, by omega⟩ d_Law_law_765 (fun r9 F9 z9 hp9 => ?_)
      obtain ⟨rfl, h9b, h9c⟩ := hp9
      rw [h9b, h9c]
      clear h9b h9c F9 z9
      refine x_top (v := (nI (bitsN (hLen A.1) e.2.2.2 e.2.2.1))) (by rw [btl_len]) ?_
      refine x_iconst hC d_Law_law_768 (v := nI 4) (by decide) ?_
      refine x_iadd hC d_Law_law_769 (v := (nI (bitsN (hLen A.1) e.2.2.2 e.2.2.1 + 4))) (x_addN (by omega)) ?_
      refine x_icmpN_ge hC d_Law_law_770 (tgt := 872) (by decide) (by omega) (by omega) (fun c_770 => ?_) (fun c_770 => ?_)
      · skip
        have hj9 : j = bitsN (hLen A.1) e.2.2.2 e.2.2.1 + 4 := by omega
        have hr0 : r = 0 := by rw [hr, hj9, ← hsu]; exact rst_0 hf1
        refine x_iload hC d_Law_law_872 rfl ?_
        refine x_top (v := (nI (0))) (by rw [hr0]) ?_
        refine x_ifN_ne hC d_Law_law_874 (tgt := 927) (by decide) (by omega) (fun c_874 => ?_) (fun c_874 => ?_)
        · skip
          exact absurd c_874 (by omega)
        · skip
          refine x_iload hC d_Law_law_877 rfl ?_
          refine x_ifN_lt hC d_Law_law_879 (tgt := 927) (by decide) (by omega) (fun c_879 => ?_) (fun c_879 => ?_)
          · skip
            exact c_879.elim
          · skip
            refine x_iload hC d_Law_law_882 rfl ?_
            refine x_bipush hC d_Law_law_884 (v := nI 15) (by decide) ?_
            refine x_icmpN_gt hC d_Law_law_886 (tgt := 927) (by decide) (by omega) (by omega) (fun c_886 => ?_) (fun c_886 => ?_)
            · skip
              exact absurd c_886 (by omega)
            · skip
              refine x_aload_n hC d_Law_law_889 rfl rfl ?_
              refine x_iload hC d_Law_law_890 rfl ?_
              obtain ⟨b0, -⟩ := id hM
              refine x_callV hC kv_Law_235 (c_MessageCoder_checksumByTableK (hM := hM) (hA := hA) (hZx := hZx) (n0 := m2_) (he := m3_) (hSR := hSR) (A := A) (e := e) (rt := rt)) b0 rfl rfl (by decide) rfl rfl rfl (Nat.le_of_ble_eq_true rfl) ⟨by omega, by omega⟩ d_Law_law_892 (fun r9 F9 z9 hp9 => ?_)
              obtain ⟨rfl, h9c, j0, hag9⟩ := hp9
              rw [h9c]
              clear h9c z9
              generalize F9 = F1 at *
              have hcs : xCs F1 (ca) (ce) (A.1) (8) := xCs_fr hcs (fun a9 q1 q2 => hag9 a9 (by omega))
              have ht : xTs F1 (s14) (txl e.2.2.2 e.2.2.1) := xTs_fr ht (fun a9 q1 q2 => hag9 a9 (by omega))
              have hbt : xTs F1 (s15) (btl (hLen A.1) (hVal (hLen A.1)) e.2.2.2 e.2.2.1) := xTs_fr hbt (fun a9 q1 q2 => hag9 a9 (by omega))
              have hM : xMC F1 (cm) (b) (M) := j0
              have hg_892 := hag9
              clear hag9
              refine x_top (v := (nI (su))) (by rw [hsu]) ?_
              refine x_iload hC d_Law_law_895 rfl ?_
              refine x_icmpN_ne hC d_Law_law_897 (tgt := 927) (by decide) (by omega) (by omega) (fun c_897 => ?_) (fun c_897 => ?_)
              · skip
                exact absurd c_897 (by omega)
              · skip
                refine x_aload_n hC d_Law_law_900 rfl rfl ?_
                refine x_iload hC d_Law_law_901 rfl ?_
                refine x_iload hC d_Law_law_903 rfl ?_
                obtain ⟨b0, -⟩ := id hM
                refine x_callV hC kv_Law_238 (c_MessageCoder_areEqualK (hM := hM) (hA := hA) (hZx := hZx) (n0 := m2_) (he := m3_) (m0 := m2_) (he2 := m3_) (A := A) (e := e) (e2 := e)) b0 rfl rfl (by decide) rfl rfl rfl (Nat.le_of_ble_eq_true rfl) ⟨by omega, by omega⟩ d_Law_law_905 (fun r9 F9 z9 hp9 => ?_)
                obtain ⟨rfl, h9b, h9c⟩ := hp9
                rw [h9b, h9c]
                clear h9b h9c F9 z9
                refine x_ifB_eq hC d_Law_law_908 (tgt := 927) (by decide) (fun c_908 => ?_) (fun c_908 => ?_)
                · skip
                  exact absurd ⟨rfl, (eqTo_iff _ _ _).mpr (fun _ _ => rfl)⟩ c_908
                · skip
                  refine x_aload_n hC d_Law_law_911 rfl rfl ?_
                  refine x_iload hC d_Law_law_912 rfl ?_
                  refine x_iload hC d_Law_law_914 rfl ?_
                  obtain ⟨b0, -⟩ := id hM
                  refine x_callV hC kv_Law_242 (c_MessageCoder_commonLengthK (hM := hM) (hA := hA) (hZx := hZx) (n0 := m2_) (he := m3_) (m0 := m2_) (he2 := m3_) (A := A) (e := e) (e2 := e)) b0 rfl rfl (by decide) rfl rfl rfl (Nat.le_of_ble_eq_true rfl) ⟨by omega, by omega⟩ d_Law_law_916 (fun r9 F9 z9 hp9 => ?_)
                  obtain ⟨rfl, h9c, j0, hag9⟩ := hp9
                  rw [h9c]
                  clear h9c z9
                  generalize F9 = F2 at *
                  have hcs : xCs F2 (ca) (ce) (A.1) (8) := xCs_fr hcs (fun a9 q1 q2 => hag9 a9 (by omega))
                  have ht : xTs F2 (s14) (txl e.2.2.2 e.2.2.1) := xTs_fr ht (fun a9 q1 q2 => hag9 a9 (by omega))
                  have hbt : xTs F2 (s15) (btl (hLen A.1) (hVal (hLen A.1)) e.2.2.2 e.2.2.1) := xTs_fr hbt (fun a9 q1 q2 => hag9 a9 (by omega))
                  have hM : xMC F2 (cm) (b) (M) := j0
                  have hg_916 := hag9
                  clear hag9
                  refine x_top (v := (nI (e.2.2.1))) (by rw [lcs_self]) ?_
                  refine x_aload hC d_Law_law_919 rfl ?_
                  obtain ⟨u0, s0, -⟩ := id ht
                  refine x_callV hC kv_Law_119 (c_String_lengthL (hs := ht) (hJ := hJ) (fo := fo)) s0 rfl rfl (by decide) rfl rfl rfl (Nat.le_of_ble_eq_true rfl) ⟨by omega, by omega⟩ d_Law_law_921 (fun r9 F9 z9 hp9 => ?_)
                  obtain ⟨rfl, h9b, h9c⟩ := hp9
                  rw [h9b, h9c]
                  clear h9b h9c F9 z9
                  refine x_top (v := (nI (e.2.2.1))) (by rw [txl_len]) ?_
                  refine x_icmpN_eq hC d_Law_law_924 (tgt := 929) (by decide) (by omega) (by omega) (fun c_924 => ?_) (fun c_924 => ?_)
                  · skip
                    refine x_widen (k1 := k + 1300) (n1 := n + 8000) (by omega) (by omega) ?_
                    refine x_forget (L1 := [some (.ref a), some (.ref b), some (.int (nI (T))), some (.int (nI (sumN (fun j => A.1 j * hLen A.1 j) 8))), some (.int (nI (sumN A.1 8))), some (.int (nI (maxN (hLen A.1) 8))), some (.int (nI (A.2.2.1.1))), some (.ref ca), none, some (.int (nI (i))), some (.int (nI (e.1))), some (.int (nI 0)), none, some (.int (nI (su))), some (.ref s14), some (.ref s15), none, none, none, none, none, none]) ⟨Or.inr rfl, ⟨Or.inr rfl, ⟨Or.inr rfl, ⟨Or.inr rfl, ⟨Or.inr rfl, ⟨Or.inr rfl, ⟨Or.inr rfl, ⟨Or.inr rfl, ⟨Or.inl rfl, ⟨Or.inr rfl, ⟨Or.inr rfl, ⟨Or.inr rfl, ⟨Or.inl rfl, ⟨Or.inr rfl, ⟨Or.inr rfl, ⟨Or.inr rfl, ⟨Or.inl rfl, ⟨Or.inl rfl, ⟨Or.inl rfl, ⟨Or.inl rfl, ⟨Or.inl rfl, ⟨Or.inl rfl, trivial⟩⟩⟩⟩⟩⟩⟩⟩⟩⟩⟩⟩⟩⟩⟩⟩⟩⟩⟩⟩⟩⟩ ?_
                    exact kk F2 z hM hcs ht hbt (by omega)
                  · skip
                    exact absurd c_924 (by omega)
      · skip
        obtain ⟨y, hy⟩ : ∃ y, (if j < bitsN (hLen A.1) e.2.2.2 e.2.2.1 then splB (hLen A.1) (hVal (hLen A.1)) e.2.2.2 e.2.2.1 j else su / 2 ^ (3 + bitsN (hLen A.1) e.2.2.2 e.2.2.1 - j) % 2) = y := ⟨_, rfl⟩
        have hy1 : y ≤ 1 := by rw [← hy]; split; (exact splB_le _ _ _ _ j); omega
        have hr15 : r ≤ 15 := by rw [hr]; exact rst_15 hf1 j
        have hrs : rstB (bitsN (hLen A.1) e.2.2.2 e.2.2.1) (splB (hLen A.1) (hVal (hLen A.1)) e.2.2.2 e.2.2.1) su (j + 1) = crcS r y := by rw [rstB, hy, hr]
        have join_811 : xX P Θ 811 [some (.ref a), some (.ref b), some (.int (nI (T))), some (.int (nI (sumN (fun j => A.1 j * hLen A.1 j) 8))), some (.int (nI (sumN A.1 8))), some (.int (nI (maxN (hLen A.1) 8))), some (.int (nI (A.2.2.1.1))), some (.ref ca), none, some (.int (nI (i))), some (.int (nI (e.1))), some (.int (nI 0)), some (.int (nI (r))), some (.int (nI (su))), some (.ref s14), some (.ref s15), some (.int (nI (j))), none, none, none, none, none] [.int (nI (y))] Fh761 (z) (k + 10 + 10 * j) (n + 100 + 60 * j) := by
          refine x_istore hC d_Law_law_811 (Nat.le_of_ble_eq_true rfl) (L1 := [some (.ref a), some (.ref b), some (.int (nI (T))), some (.int (nI (sumN (fun j => A.1 j * hLen A.1 j) 8))), some (.int (nI (sumN A.1 8))), some (.int (nI (maxN (hLen A.1) 8))), some (.int (nI (A.2.2.1.1))), some (.ref ca), none, some (.int (nI (i))), some (.int (nI (e.1))), some (.int (nI 0)), some (.int (nI (r))), some (.int (nI (su))), some (.ref s14), some (.ref s15), some (.int (nI (j))), some (.int (nI (y))), none, none, none, none]) rfl ?_
          refine x_iload hC d_Law_law_813 rfl ?_
          refine x_aload hC d_Law_law_815 rfl ?_
          obtain ⟨u0, s0, -⟩ := id hbt
          refine x_callV hC kv_Law_119 (c_String_lengthL (hs := hbt) (hJ := hJ) (fo := fo)) s0 rfl rfl (by decide) rfl rfl rfl (Nat.le_of_ble_eq_true rfl) ⟨by omega, by omega⟩ d_Law_law_817 (fun r9 F9 z9 hp9 => ?_)
          obtain ⟨rfl, h9b, h9c⟩ := hp9
          rw [h9b, h9c]
          clear h9b h9c F9 z9
          refine x_top (v := (nI (bitsN (hLen A.1) e.2.2.2 e.2.2.1))) (by rw [btl_len]) ?_
          refine x_icmpN_ge hC d_Law_law_820 (tgt := 838) (by decide) (by omega) (by omega) (fun c_820 => ?_) (fun c_820 => ?_)
          · skip
            refine x_iconst hC d_Law_law_838 (v := nI 2) (by decide) ?_
            refine x_iload hC d_Law_law_839 rfl ?_
            refine x_imul hC d_Law_law_841 (v := (nI ((2) * (r)))) (pk_mul _ _) ?_
            refine x_iload hC d_Law_law_842 rfl ?_
            refine x_iadd hC d_Law_law_844 (v := (nI ((2) * (r) + y))) (x_addN (by omega)) ?_
            refine x_istore hC d_Law_law_845 (Nat.le_of_ble_eq_true rfl) (L1 := [some (.ref a), some (.ref b), some (.int (nI (T))), some (.int (nI (sumN (fun j => A.1 j * hLen A.1 j) 8))), some (.int (nI (sumN A.1 8))), some (.int (nI (maxN (hLen A.1) 8))), some (.int (nI (A.2.2.1.1))), some (.ref ca), none, some (.int (nI (i))), some (.int (nI (e.1))), some (.int (nI 0)), some (.int (nI ((2) * (r) + y))), some (.int (nI (su))), some (.ref s14), some (.ref s15), some (.int (nI (j))), some (.int (nI (y))), none, none, none, none]) rfl ?_
            refine x_iload hC d_Law_law_847 rfl ?_
            refine x_bipush hC d_Law_law_849 (v := nI 15) (by decide) ?_
            refine x_icmpN_le hC d_Law_law_851 (tgt := 862) (by decide) (by omega) (by omega) (fun c_851 => ?_) (fun c_851 => ?_)
            · skip
              refine x_iload hC d_Law_law_862 rfl ?_
              refine x_top (v := (nI (rstB (bitsN (hLen A.1) e.2.2.2 e.2.2.1) (splB (hLen A.1) (hVal (hLen A.1)) e.2.2.2 e.2.2.1) su (j + 1)))) (by rw [hrs, crcS_big, Nat.mul_comm r 2, if_neg (by omega)]) ?_
              refine x_istore hC d_Law_law_864 (Nat.le_of_ble_eq_true rfl) (L1 := [some (.ref a), some (.ref b), some (.int (nI (T))), some (.int (nI (sumN (fun j => A.1 j * hLen A.1 j) 8))), some (.int (nI (sumN A.1 8))), some (.int (nI (maxN (hLen A.1) 8))), some (.int (nI (A.2.2.1.1))), some (.ref ca), none, some (.int (nI (i))), some (.int (nI (e.1))), some (.int (nI 0)), some (.int (nI (rstB (bitsN (hLen A.1) e.2.2.2 e.2.2.1) (splB (hLen A.1) (hVal (hLen A.1)) e.2.2.2 e.2.2.1) su (j + 1)))), some (.int (nI (su))), some (.ref s14), some (.ref s15), some (.int (nI (j))), some (.int (nI (y))), none, none, none, none]) rfl ?_
              refine x_iinc hC d_Law_law_866 rfl (v := (nI (j + 1))) (x_incN 1) (Nat.le_of_ble_eq_true rfl) (L1 := [some (.ref a), some (.ref b), some (.int (nI (T))), some (.int (nI (sumN (fun j => A.1 j * hLen A.1 j) 8))), some (.int (nI (sumN A.1 8))), some (.int (nI (maxN (hLen A.1) 8))), some (.int (nI (A.2.2.1.1))), some (.ref ca), none, some (.int (nI (i))), some (.int (nI (e.1))), some (.int (nI 0)), some (.int (nI (rstB (bitsN (hLen A.1) e.2.2.2 e.2.2.1) (splB (hLen A.1) (hVal (hLen A.1)) e.2.2.2 e.2.2.1) su (j + 1)))), some (.int (nI (su))), some (.ref s14), some (.ref s15), some (.int (nI (j + 1))), some (.int (nI (y))), none, none, none, none]) rfl ?_
              refine x_goto hC d_Law_law_869 (tgt := 761) (by decide) ?_
              refine x_forget (L1 := [some (.ref a), some (.ref b), some (.int (nI (T))), some (.int (nI (sumN (fun j => A.1 j * hLen A.1 j) 8))), some (.int (nI (sumN A.1 8))), some (.int (nI (maxN (hLen A.1) 8))), some (.int (nI (A.2.2.1.1))), some (.ref ca), none, some (.int (nI (i))), some (.int (nI (e.1))), some (.int (nI 0)), some (.int (nI (rstB (bitsN (hLen A.1) e.2.2.2 e.2.2.1) (splB (hLen A.1) (hVal (hLen A.1)) e.2.2.2 e.2.2.1) su (j + 1)))), some (.int (nI (su))), some (.ref s14), some (.ref s15), some (.int (nI (j + 1))), none, none, none, none, none]) ⟨Or.inr rfl, ⟨Or.inr rfl, ⟨Or.inr rfl, ⟨Or.inr rfl, ⟨Or.inr rfl, ⟨Or.inr rfl, ⟨Or.inr rfl, ⟨Or.inr rfl, ⟨Or.inl rfl, ⟨Or.inr rfl, ⟨Or.inr rfl, ⟨Or.inr rfl, ⟨Or.inr rfl, ⟨Or.inr rfl, ⟨Or.inr rfl, ⟨Or.inr rfl, ⟨Or.inr rfl, ⟨Or.inl rfl, ⟨Or.inl rfl, ⟨Or.inl rfl, ⟨Or.inl rfl, ⟨Or.inl rfl, trivial⟩⟩⟩⟩⟩⟩⟩⟩⟩⟩⟩⟩⟩⟩⟩⟩⟩⟩⟩⟩⟩⟩ ?_
              refine x_widen (k1 := k + 10 + 10 * (j + 1)) (n1 := n + 100 + 60 * (j + 1)) (by omega) (by omega) ?_
              exact ih_761 Fh761 (j + 1) (rstB (bitsN (hLen A.1) e.2.2.2 e.2.2.1) (splB (hLen A.1) (hVal (hLen A.1)) e.2.2.2 e.2.2.1) su (j + 1)) hM hcs ht hbt (by omega) (rfl) (by omega)
            · skip
              refine x_iload hC d_Law_law_854 rfl ?_
              refine x_bipush hC d_Law_law_856 (v := nI 19) (by decide) ?_
              refine x_ixor hC d_Law_law_858 (v := (nI (((2) * (r) + y) ^^^ 19))) (x_xorN _ _) ?_
              refine x_goto hC d_Law_law_859 (tgt := 864) (by decide) ?_
              refine x_top (v := (nI (rstB (bitsN (hLen A.1) e.2.2.2 e.2.2.1) (splB (hLen A.1) (hVal (hLen A.1)) e.2.2.2 e.2.2.1) su (j + 1)))) (by rw [hrs, crcS_big, Nat.mul_comm r 2, if_pos (by omega)]) ?_
              refine x_istore hC d_Law_law_864 (Nat.le_of_ble_eq_true rfl) (L1 := [some (.ref a), some (.ref b), some (.int (nI (T))), some (.int (nI (sumN (fun j => A.1 j * hLen A.1 j) 8))), some (.int (nI (sumN A.1 8))), some (.int (nI (maxN (hLen A.1) 8))), some (.int (nI (A.2.2.1.1))), some (.ref ca), none, some (.int (nI (i))), some (.int (nI (e.1))), some (.int (nI 0)), some (.int (nI (rstB (bitsN (hLen A.1) e.2.2.2 e.2.2.1) (splB (hLen A.1) (hVal (hLen A.1)) e.2.2.2 e.2.2.1) su (j + 1)))), some (.int (nI (su))), some (.ref s14), some (.ref s15), some (.int (nI (j))), some (.int (nI (y))), none, none, none, none]) rfl ?_
              refine x_iinc hC d_Law_law_866 rfl (v := (nI (j + 1))) (x_incN 1) (Nat.le_of_ble_eq_true rfl) (L1 := [some (.ref a), some (.ref b), some (.int (nI (T))), some (.int (nI (sumN (fun j => A.1 j * hLen A.1 j) 8))), some (.int (nI (sumN A.1 8))), some (.int (nI (maxN (hLen A.1) 8))), some (.int (nI (A.2.2.1.1))), some (.ref ca), none, some (.int (nI (i))), some (.int (nI (e.1))), some (.int (nI 0)), some (.int (nI (rstB (bitsN (hLen A.1) e.2.2.2 e.2.2.1) (splB (hLen A.1) (hVal (hLen A.1)) e.2.2.2 e.2.2.1) su (j + 1)))), some (.int (nI (su))), some (.ref s14), some (.ref s15), some (.int (nI (j + 1))), some (.int (nI (y))), none, none, none, none]) rfl ?_
              refine x_goto hC d_Law_law_869 (tgt := 761) (by decide) ?_
              refine x_forget (L1 := [some (.ref a), some (.ref b), some (.int (nI (T))), some (.int (nI (sumN (fun j => A.1 j * hLen A.1 j) 8))), some (.int (nI (sumN A.1 8))), some (.int (nI (maxN (hLen A.1) 8))), some (.int (nI (A.2.2.1.1))), some (.ref ca), none, some (.int (nI (i))), some (.int (nI (e.1))), some (.int (nI 0)), some (.int (nI (rstB (bitsN (hLen A.1) e.2.2.2 e.2.2.1) (splB (hLen A.1) (hVal (hLen A.1)) e.2.2.2 e.2.2.1) su (j + 1)))), some (.int (nI (su))), some (.ref s14), some (.ref s15), some (.int (nI (j + 1))), none, none, none, none, none]) ⟨Or.inr rfl, ⟨Or.inr rfl, ⟨Or.inr rfl, ⟨Or.inr rfl, ⟨Or.inr rfl, ⟨Or.inr rfl, ⟨Or.inr rfl, ⟨Or.inr rfl, ⟨Or.inl rfl, ⟨Or.inr rfl, ⟨Or.inr rfl, ⟨Or.inr rfl, ⟨Or.inr rfl, ⟨Or.inr rfl, ⟨Or.inr rfl, ⟨Or.inr rfl, ⟨Or.inr rfl, ⟨Or.inl rfl, ⟨Or.inl rfl, ⟨Or.inl rfl, ⟨Or.inl rfl, ⟨Or.inl rfl, trivial⟩⟩⟩⟩⟩⟩⟩⟩⟩⟩⟩⟩⟩⟩⟩⟩⟩⟩⟩⟩⟩⟩ ?_
              refine x_widen (k1 := k + 10 + 10 * (j + 1)) (n1 := n + 100 + 60 * (j + 1)) (by omega) (by omega) ?_
              exact ih_761 Fh761 (j + 1) (rstB (bitsN (hLen A.1) e.2.2.2 e.2.2.1) (splB (hLen A.1) (hVal (hLen A.1)) e.2.2.2 e.2.2.1) su (j + 1)) hM hcs ht hbt (by omega) (rfl) (by omega)
          · skip
            refine x_aload_n hC d_Law_law_823 rfl rfl ?_
            refine x_iload hC d_Law_law_824 rfl ?_
            refine x_iload hC d_Law_law_826 rfl ?_
            obtain ⟨b0, -⟩ := id hM
            refine x_callV hC kv_Law_62 (c_MessageCoder_bitAtK (hM := hM) (hA := hA) (hZx := hZx) (n0 := m2_) (he := m3_) (n1 := by omega) (A := A) (e := e)) b0 rfl rfl (by decide) rfl rfl rfl (Nat.le_of_ble_eq_true rfl) ⟨by omega, by omega⟩ d_Law_law_828 (fun r9 F9 z9 hp9 => ?_)
            obtain ⟨rfl, h9c, j0, hag9⟩ := hp9
            rw [h9c]
            clear h9c z9
            generalize F9 = F3 at *
            have hcs : xCs F3 (ca) (ce) (A.1) (8) := xCs_fr hcs (fun a9 q1 q2 => hag9 a9 (by omega))
            have ht : xTs F3 (s14) (txl e.2.2.2 e.2.2.1) := xTs_fr ht (fun a9 q1 q2 => hag9 a9 (by omega))
            have hbt : xTs F3 (s15) (btl (hLen A.1) (hVal (hLen A.1)) e.2.2.2 e.2.2.1) := xTs_fr hbt (fun a9 q1 q2 => hag9 a9 (by omega))
            have hM : xMC F3 (cm) (b) (M) := j0
            have hg_828 := hag9
            clear hag9
            refine x_iload hC d_Law_law_831 rfl ?_
            refine x_top1 (v := (nI (y))) (by rw [← hy, if_pos (by omega)]) ?_
            refine x_icmpN_eq hC d_Law_law_833 (tgt := 838) (by decide) (by omega) (by omega) (fun c_833 => ?_) (fun c_833 => ?_)
            · skip
              refine x_iconst hC d_Law_law_838 (v := nI 2) (by decide) ?_
              refine x_iload hC d_Law_law_839 rfl ?_
              refine x_imul hC d_Law_law_841 (v := (nI ((2) * (r)))) (pk_mul _ _) ?_
              refine x_iload hC d_Law_law_842 rfl ?_
              refine x_iadd hC d_Law_law_844 (v := (nI ((2) * (r) + y))) (x_addN (by omega)) ?_
              refine x_istore hC d_Law_law_845 (Nat.le_of_ble_eq_true rfl) (L1 := [some (.ref a), some (.ref b), some (.int (nI (T))), some (.int (nI (sumN (fun j => A.1 j * hLen A.1 j) 8))), some (.int (nI (sumN A.1 8))), some (.int (nI (maxN (hLen A.1) 8))), some (.int (nI (A.2.2.1.1))), some (.ref ca), none, some (.int (nI (i))), some (.int (nI (e.1))), some (.int (nI 0)), some (.int (nI ((2) * (r) + y))), some (.int (nI (su))), some (.ref s14), some (.ref s15), some (.int (nI (j))), some (.int (nI (y))), none, none, none, none]) rfl ?_
              refine x_iload hC d_Law_law_847 rfl ?_
              refine x_bipush hC d_Law_law_849 (v := nI 15) (by decide) ?_
              refine x_icmpN_le hC d_Law_law_851 (tgt := 862) (by decide) (by omega) (by omega) (fun c_851 => ?_) (fun c_851 => ?_)
              · skip
                refine x_iload hC d_Law_law_862 rfl ?_
                refine x_top (v := (nI (rstB (bitsN (hLen A.1) e.2.2.2 e.2.2.1) (splB (hLen A.1) (hVal (hLen A.1)) e.2.2.2 e.2.2.1) su (j + 1)))) (by rw [hrs, crcS_big, Nat.mul_comm r 2, if_neg (by omega)]) ?_
                refine x_istore hC d_Law_law_864 (Nat.le_of_ble_eq_true rfl) (L1 := [some (.ref a), some (.ref b), some (.int (nI (T))), some (.int (nI (sumN (fun j => A.1 j * hLen A.1 j) 8))), some (.int (nI (sumN A.1 8))), some (.int (nI (maxN (hLen A.1) 8))), some (.int (nI (A.2.2.1.1))), some (.ref ca), none, some (.int (nI (i))), some (.int (nI (e.1))), some (.int (nI 0)), some (.int (nI (rstB (bitsN (hLen A.1) e.2.2.2 e.2.2.1) (splB (hLen A.1) (hVal (hLen A.1)) e.2.2.2 e.2.2.1) su (j + 1)))), some (.int (nI (su))), some (.ref s14), some (.ref s15), some (.int (nI (j))), some (.int (nI (y))), none, none, none, none]) rfl ?_
                refine x_iinc hC d_Law_law_866 rfl (v := (nI (j + 1))) (x_incN 1) (Nat.le_of_ble_eq_true rfl) (L1 := [some (.ref a), some (.ref b), some (.int (nI (T))), some (.int (nI (sumN (fun j => A.1 j * hLen A.1 j) 8))), some (.int (nI (sumN A.1 8))), some (.int (nI (maxN (hLen A.1) 8))), some (.int (nI (A.2.2.1.1))), some (.ref ca), none, some (.int (nI (i))), some (.int (nI (e.1))), some (.int (nI 0)), some (.int (nI (rstB (bitsN (hLen A.1) e.2.2.2 e.2.2.1) (splB (hLen A.1) (hVal (hLen A.1)) e.2.2.2 e.2.2.1) su (j + 1)))), some (.int (nI (su))), some (.ref s14), some (.ref s15), some (.int (nI (j + 1))), some (.int (nI (y))), none, none, none, none]) rfl ?_
                refine x_goto hC d_Law_law_869 (tgt := 761) (by decide) ?_
                refine x_forget (L1 := [some (.ref a), some (.ref b), some (.int (nI (T))), some (.int (nI (sumN (fun j => A.1 j * hLen A.1 j) 8))), some (.int (nI (sumN A.1 8))), some (.int (nI (maxN (hLen A.1) 8))), some (.int (nI (A.2.2.1.1))), some (.ref ca), none, some (.int (nI (i))), some (.int (nI (e.1))), some (.int (nI 0)), some (.int (nI (rstB (bitsN (hLen A.1) e.2.2.2 e.2.2.1) (splB (hLen A.1) (hVal (hLen A.1)) e.2.2.2 e.2.2.1) su (j + 1)))), some (.int (nI (su))), some (.ref s14), some (.ref s15), some (.int (nI (j + 1))), none, none, none, none, none]) ⟨Or.inr rfl, ⟨Or.inr rfl, ⟨Or.inr rfl, ⟨Or.inr rfl, ⟨Or.inr rfl, ⟨Or.inr rfl, ⟨Or.inr rfl, ⟨Or.inr rfl, ⟨Or.inl rfl, ⟨Or.inr rfl, ⟨Or.inr rfl, ⟨Or.inr rfl, ⟨Or.inr rfl, ⟨Or.inr rfl, ⟨Or.inr rfl, ⟨Or.inr rfl, ⟨Or.inr rfl, ⟨Or.inl rfl, ⟨Or.inl rfl, ⟨Or.inl rfl, ⟨Or.inl rfl, ⟨Or.inl rfl, trivial⟩⟩⟩⟩⟩⟩⟩⟩⟩⟩⟩⟩⟩⟩⟩⟩⟩⟩⟩⟩⟩⟩ ?_
                refine x_widen (k1 := k + 10 + 10 * (j + 1)) (n1 := n + 100 + 60 * (j + 1)) (by omega) (by omega) ?_
                exact ih_761 F3 (j + 1) (rstB (bitsN (hLen A.1) e.2.2.2 e.2.2.1) (splB (hLen A.1) (hVal (hLen A.1)) e.2.2.2 e.2.2.1) su (j + 1)) hM hcs ht hbt (by omega) (rfl) (by omega)
              · skip
                refine x_iload hC d_Law_law_854 rfl ?_
                refine x_bipush hC d_Law_law_856 (v := nI 19) (by decide) ?_
                refine x_ixor hC d_Law_law_858 (v := (nI (((2) * (r) + y) ^^^ 19))) (x_xorN _ _) ?_
                refine x_goto hC d_Law_law_859 (tgt := 864) (by decide) ?_
                refine x_top (v := (nI (rstB (bitsN (hLen A.1) e.2.2.2 e.2.2.1) (splB (hLen A.1) (hVal (hLen A.1)) e.2.2.2 e.2.2.1) su (j + 1)))) (by rw [hrs, crcS_big, Nat.mul_comm r 2, if_pos (by omega)]) ?_
                refine x_istore hC d_Law_law_864 (Nat.le_of_ble_eq_true rfl) (L1 := [some (.ref a), some (.ref b), some (.int (nI (T))), some (.int (nI (sumN (fun j => A.1 j * hLen A.1 j) 8))), some (.int (nI (sumN A.1 8))), some (.int (nI (maxN (hLen A.1) 8))), some (.int (nI (A.2.2.1.1))), some (.ref ca), none, some (.int (nI (i))), some (.int (nI (e.1))), some (.int (nI 0)), some (.int (nI (rstB (bitsN (hLen A.1) e.2.2.2 e.2.2.1) (splB (hLen A.1) (hVal (hLen A.1)) e.2.2.2 e.2.2.1) su (j + 1)))), some (.int (nI (su))), some (.ref s14), some (.ref s15), some (.int (nI (j))), some (.int (nI (y))), none, none, none, none]) rfl ?_
                refine x_iinc hC d_Law_law_866 rfl (v := (nI (j + 1))) (x_incN 1) (Nat.le_of_ble_eq_true rfl) (L1 := [some (.ref a), some (.ref b), some (.int (nI (T))), some (.int (nI (sumN (fun j => A.1 j * hLen A.1 j) 8))), some (.int (nI (sumN A.1 8))), some (.int (nI (maxN (hLen A.1) 8))), some (.int (nI (A.2.2.1.1))), some (.ref ca), none, some (.int (nI (i))), some (.int (nI (e.1))), some (.int (nI 0)), some (.int (nI (rstB (bitsN (hLen A.1) e.2.2.2 e.2.2.1) (splB (hLen A.1) (hVal (hLen A.1)) e.2.2.2 e.2.2.1) su (j + 1)))), some (.int (nI (su))), some (.ref s14), some (.ref s15), some (.int (nI (j + 1))), some (.int (nI (y))), none, none, none, none]) rfl ?_
                refine x_goto hC d_Law_law_869 (tgt := 761) (by decide) ?_
                refine x_forget (L1 := [some (.ref a), some (.ref b), some (.int (nI (T))), some (.int (nI (sumN (fun j => A.1 j * hLen A.1 j) 8))), some (.int (nI (sumN A.1 8))), some (.int (nI (maxN (hLen A.1) 8))), some (.int (nI (A.2.2.1.1))), some (.ref ca), none, some (.int (nI (i))), some (.int (nI (e.1))), some (.int (nI 0)), some (.int (nI (rstB (bitsN (hLen A.1) e.2.2.2 e.2.2.1) (splB (hLen A.1) (hVal (hLen A.1)) e.2.2.2 e.2.2.1) su (j + 1)))), some (.int (nI (su))), some (.ref s14), some (.ref s15), some (.int (nI (j + 1))), none, none, none, none, none]) ⟨Or.inr rfl, ⟨Or.inr rfl, ⟨Or.inr rfl, ⟨Or.inr rfl, ⟨Or.inr rfl, ⟨Or.inr rfl, ⟨Or.inr rfl, ⟨Or.inr rfl, ⟨Or.inl rfl, ⟨Or.inr rfl, ⟨Or.inr rfl, ⟨Or.inr rfl, ⟨Or.inr rfl, ⟨Or.inr rfl, ⟨Or.inr rfl, ⟨Or.inr rfl, ⟨Or.inr rfl, ⟨Or.inl rfl, ⟨Or.inl rfl, ⟨Or.inl rfl, ⟨Or.inl rfl, ⟨Or.inl rfl, trivial⟩⟩⟩⟩⟩⟩⟩⟩⟩⟩⟩⟩⟩⟩⟩⟩⟩⟩⟩⟩⟩⟩ ?_
                refine x_widen (k1 := k + 10 + 10 * (j + 1)) (n1 := n + 100 + 60 * (j + 1)) (by omega) (by omega) ?_
                exact ih_761 F3 (j + 1) (rstB (bitsN (hLen A.1) e.2.2.2 e.2.2.1) (splB (hLen A.1) (hVal (hLen A.1)) e.2.2.2 e.2.2.1) su (j + 1)) hM hcs ht hbt (by omega) (rfl) (by omega)
            · skip
              exact absurd c_833 (by omega)
        refine x_iload hC d_Law_law_773 rfl ?_
        refine x_aload hC d_Law_law_775 rfl ?_
        obtain ⟨u0, s0, -⟩ := id hbt
        refine x_callV hC kv_Law_119 (c_String_lengthL (hs := hbt) (hJ := hJ) (fo := fo)) s0 rfl rfl (by decide) rfl rfl rfl (Nat.le_of_ble_eq_true rfl) ⟨by omega, by omega⟩ d_Law_law_777 (fun r9 F9 z9 hp9 => ?_)
        obtain ⟨rfl, h9b, h9c⟩ := hp9
        rw [h9b, h9c]
        clear h9b h9c F9 z9
        refine x_top (v := (nI (bitsN (hLen A.1) e.2.2.2 e.2.2.1))) (by rw [btl_len]) ?_
        refine x_icmpN_ge hC d_Law_law_780 (tgt := 796) (by decide) (by omega) (by omega) (fun c_780 => ?_) (fun c_780 => ?_)
        · skip
          refine x_iload hC d_Law_law_796 rfl ?_
          refine x_iconst hC d_Law_law_798 (v := nI 3) (by decide) ?_
          refine x_iload hC d_Law_law_799 rfl ?_
          refine x_isub hC d_Law_law_801 (v := (nI 3 - nI j)) rfl ?_
          refine x_aload hC d_Law_law_802 rfl ?_
          obtain ⟨u0, s0, -⟩ := id hbt
          refine x_callV hC kv_Law_119 (c_String_lengthL (hs := hbt) (hJ := hJ) (fo := fo)) s0 rfl rfl (by decide) rfl rfl rfl (Nat.le_of_ble_eq_true rfl) ⟨by omega, by omega⟩ d_Law_law_804 (fun r9 F9 z9 hp9 => ?_)
          obtain ⟨rfl, h9b, h9c⟩ := hp9
          rw [h9b, h9c]
          clear h9b h9c F9 z9
          refine x_top (v := (nI (bitsN (hLen A.1) e.2.2.2 e.2.2.1))) (by rw [btl_len]) ?_
          refine x_iadd hC d_Law_law_807 (v := (nI (3 + bitsN (hLen A.1) e.2.2.2 e.2.2.1 - j))) (xt_3j (by omega)) ?_
          refine x_ishr hC d_Law_law_808 (v := (nI (su / 2 ^ (3 + bitsN (hLen A.1) e.2.2.2 e.2.2.1 - j)))) (x_shrN _ (by omega) (by omega) rfl) ?_
          refine x_iconst hC d_Law_law_809 (v := nI 1) (by decide) ?_
          refine x_iand hC d_Law_law_810 (v := (nI (y))) (by rw [← hy, if_neg (by omega)]; exact x_and1 (by have := Nat.div_le_self su (2 ^ (3 + bitsN (hLen A.1) e.2.2.2 e.2.2.1 - j)); omega)) ?_
          refine x_widen (k1 := k + 10 + 10 * j) (n1 := n + 100 + 60 * j) (by omega) (by omega) ?_
          exact join_811 
        · skip
          refine x_aload hC d_Law_law_783 rfl ?_
          refine x_iload hC d_Law_law_785 rfl ?_
          obtain ⟨u0, s0, -⟩ := id hbt
          refine x_callV hC kv_Law_127 (c_String_charAtL (hs := hbt) (hJ := hJ) (hi := by rw [btl_len]; omega) (fo := fo)) s0 rfl rfl (by decide) rfl rfl rfl (Nat.le_of_ble_eq_true rfl) ⟨by omega, by omega⟩ d_Law_law_787 (fun r9 F9 z9 hp9 => ?_)
          obtain ⟨rfl, h9b, h9c⟩ := hp9
          rw [h9b, h9c]
          clear h9b h9c F9 z9
          refine x_top (v := (nI (48 + splB (hLen A.1) (hVal (hLen A.1)) e.2.2.2 e.2.2.1 j))) (by rw [btl_at (by omega)]) ?_
          refine x_bipush hC d_Law_law_790 (v := nI 48) (by decide) ?_
          refine x_isub hC d_Law_law_792 (v := (nI (y))) (by rw [← hy, if_pos (by omega)]; exact xt_48 _) ?_
          refine x_goto hC d_Law_law_793 (tgt := 811) (by decide) ?_
          refine x_widen (k1 := k + 10 + 10 * j) (n1 := n + 100 + 60 * j) (by omega) (by omega) ?_
          exact join_811 
  refine x_widen (k1 := k + 10 + 10 * 0) (n1 := n + 100 + 60 * 0) (by omega) (by omega) ?_
  exact loop_761 (bitsN (hLen A.1) e.2.2.2 e.2.2.1 + 4 - 0 + 1) F (0) (0) hM hcs ht hbt (by omega) (rfl) (by omega)

set_option maxHeartbeats 4000000 in
set_option maxRecDepth 20000 in
theorem l_m4 {P : xP} {Θ : xT} {fo : Nat} {o1 : Nat} {o2 : Nat} {rt : Nat} {cm : cmT} {sm : Nat} {a : Nat} {N : Nat} {xs : Nat → Int32} {qe : Nat} {qq : Nat} {qx : Nat} {qc : Nat} (hG : xGl P Θ fo o1 o2 rt cm sm a N xs qe qq qx qc) {b : Nat} {M : mcS} {A : aS} {q : Nat} {T : Nat} {ca : Nat} {ce : Nat} {i : Nat} {e : mS} {s14 : Nat} {s15 : Nat} {su : Nat} {F : xF} {z k n : Nat} (hM : xMC F (cm) (b) (M)) (hcs : xCs F (ca) (ce) (A.1) (8)) (ht : xTs F (s14) (txl e.2.2.2 e.2.2.1)) (hA : M.1 = A) (hB : pBd M q) (hq : q ≤ 900) (hz : b + 566 ≤ ca) (hce : ce ≤ z) (hi : i < A.2.2.1.1) (he : A.2.2.1.2.2 (mRk A (nI i)) = e) (hs14 : ce ≤ s14 ∧ s14 + 2 ≤ z) (hs15 : ce ≤ s15 ∧ s15 + 2 ≤ z) (hk : k + 5000 ≤ 644766) (hn : n + 500000 ≤ 7153085) (kk : ∀ (F1 : xF), xMC F1 cm b M → xCs F1 ca ce A.1 8 → xTs F1 s14 (txl e.2.2.2 e.2.2.1) → xX P Θ 976 [some (.ref a), some (.ref b), some (.int (nI (T))), some (.int (nI (sumN (fun j => A.1 j * hLen A.1 j) 8))), some (.int (nI (sumN A.1 8))), some (.int (nI (maxN (hLen A.1) 8))), some (.int (nI (A.2.2.1.1))), some (.ref ca), none, some (.int (nI (i))), some (.int (nI (e.1))), some (.int (nI 0)), none, some (.int (nI (su))), some (.ref s14), some (.ref s15), none, none, none, none, none, none] [] F1 z (k + 100) (n + 1000)) : xX P Θ 929 [some (.ref a), some (.ref b), some (.int (nI (T))), some (.int (nI (sumN (fun j => A.1 j * hLen A.1 j) 8))), some (.int (nI (sumN A.1 8))), some (.int (nI (maxN (hLen A.1) 8))), some (.int (nI (A.2.2.1.1))), some (.ref ca), none, some (.int (nI (i))), some (.int (nI (e.1))), some (.int (nI 0)), none, some (.int (nI (su))), some (.ref s14), some (.ref s15), none, none, none, none, none, none] [] F (z) k n := by
  obtain ⟨hC, hZx, hNx, hJ, hD, hSR, hCM, hSM, hS, hE, hEo, hQ, hQo, hX, hXo, hK, hKo⟩ := hG
  have hI : pInv A := hA ▸ hB.1
  obtain ⟨⟨i1_, i2_, i3_, i4_, i5_⟩, iw, idr, im, io, ib, it⟩ := id hI
  have hcc := hcs.1
  obtain ⟨m1_, m2_, m3_, m4_⟩ := msg_at hI (by have := hB.2.2.2.1; rw [hA] at this; omega) hi
  rw [he] at m2_ m3_ m4_
  obtain ⟨e1_, e2_, e3_, e4_⟩ := id m4_
  have hnx : A.2.2.1.2.1 ≤ 900 := by have := hB.2.2.2.1; rw [hA] at this; omega
  have hb112 : bitsN (hLen A.1) e.2.2.2 e.2.2.1 ≤ 112 := Nat.le_trans (bitsN_le (fun j hj => hLen_7 A.1 hj) _ _) (by omega)
  refine x_iconst hC d_Law_law_929 (v := nI 0) (by decide) ?_
  refine x_istore hC d_Law_law_930 (Nat.le_of_ble_eq_true rfl) (L1 := [some (.ref a), some (.ref b), some (.int (nI (T))), some (.int (nI (sumN (fun j => A.1 j * hLen A.1 j) 8))), some (.int (nI (sumN A.1 8))), some (.int (nI (maxN (hLen A.1) 8))), some (.int (nI (A.2.2.1.1))), some (.ref ca), none, some (.int (nI (i))), some (.int (nI (e.1))), some (.int (nI 0)), none, some (.int (nI (su))), some (.ref s14), some (.ref s15), some (.int (nI 0)), none, none, none, none, none]) rfl ?_
  refine x_iconst hC d_Law_law_932 (v := nI 0) (by decide) ?_
  refine x_istore hC d_Law_law_933 (Nat.le_of_ble_eq_true rfl) (L1 := [some (.ref a), some (.ref b), some (.int (nI (T))), some (.int (nI (sumN (fun j => A.1 j * hLen A.1 j) 8))), some (.int (nI (sumN A.1 8))), some (.int (nI (maxN (hLen A.1) 8))), some (.int (nI (A.2.2.1.1))), some (.ref ca), none, some (.int (nI (i))), some (.int (nI (e.1))), some (.int (nI 0)), none, some (.int (nI (su))), some (.ref s14), some (.ref s15), some (.int (nI 0)), some (.int (nI 0)), none, none, none, none]) rfl ?_
  have loop_935 : ∀ (m9 : Nat) (Fh935 : xF) (j : Nat), (xMC Fh935 (cm) (b) (M)) → (xCs Fh935 (ca) (ce) (A.1) (8)) → (xTs Fh935 (s14) (txl e.2.2.2 e.2.2.1)) → (j ≤ 8) → (8 - j < m9) → xX P Θ 935 [some (.ref a), some (.ref b), some (.int (nI (T))), some (.int (nI (sumN (fun j => A.1 j * hLen A.1 j) 8))), some (.int (nI (sumN A.1 8))), some (.int (nI (maxN (hLen A.1) 8))), some (.int (nI (A.2.2.1.1))), some (.ref ca), none, some (.int (nI (i))), some (.int (nI (e.1))), some (.int (nI 0)), none, some (.int (nI (su))), some (.ref s14), some (.ref s15), some (.int (nI (sumN (fun j => tmOf e.2.2.2 (97 + j) e.2.2.1) j))), some (.int (nI (j))), none, none, none, none] [] Fh935 (z) (k + 2 * j) (n + 12 * j) := by
    intro m9
    induction m9 with
    | zero => intros; omega
    | succ m9 ih_935 =>
      intro Fh935 j hM hcs ht hj hm_935
      refine x_iload hC d_Law_law_935 rfl ?_
      refine x_bipush hC d_Law_law_937 (v := nI 8) (by decide) ?_
      refine x_icmpN_ge hC d_Law_law_939 (tgt := 964) (by decide) (by omega) (by omega) (fun c_939 => ?_) (fun c_939 => ?_)
      · skip
        refine x_iload hC d_Law_law_964 rfl ?_
        refine x_aload hC d_Law_law_966 rfl ?_
        obtain ⟨u0, s0, -⟩ := id ht
        refine x_callV hC kv_Law_119 (c_String_lengthL (hs := ht) (hJ := hJ) (fo := fo)) s0 rfl rfl (by decide) rfl rfl rfl (Nat.le_of_ble_eq_true rfl) ⟨by omega, by omega⟩ d_Law_law_968 (fun r9 F9 z9 hp9 => ?_)
        obtain ⟨rfl, h9b, h9c⟩ := hp9
        rw [h9b, h9c]
        clear h9b h9c F9 z9
        refine x_top (v := (nI (e.2.2.1))) (by rw [txl_len]) ?_
        refine x_top1 (v := (nI (e.2.2.1))) (by rw [show j = 8 by omega, tm_all e.2.2.1 (fun j hj => e4_ j hj)]) ?_
        refine x_icmpN_eq hC d_Law_law_971 (tgt := 976) (by decide) (by omega) (by omega) (fun c_971 => ?_) (fun c_971 => ?_)
        · skip
          refine x_widen (k1 := k + 100) (n1 := n + 1000) (by omega) (by omega) ?_
          refine x_forget (L1 := [some (.ref a), some (.ref b), some (.int (nI (T))), some (.int (nI (sumN (fun j => A.1 j * hLen A.1 j) 8))), some (.int (nI (sumN A.1 8))), some (.int (nI (maxN (hLen A.1) 8))), some (.int (nI (A.2.2.1.1))), some (.ref ca), none, some (.int (nI (i))), some (.int (nI (e.1))), some (.int (nI 0)), none, some (.int (nI (su))), some (.ref s14), some (.ref s15), none, none, none, none, none, none]) ⟨Or.inr rfl, ⟨Or.inr rfl, ⟨Or.inr rfl, ⟨Or.inr rfl, ⟨Or.inr rfl, ⟨Or.inr rfl, ⟨Or.inr rfl, ⟨Or.inr rfl, ⟨Or.inl rfl, ⟨Or.inr rfl, ⟨Or.inr rfl, ⟨Or.inr rfl, ⟨Or.inl rfl, ⟨Or.inr rfl, ⟨Or.inr rfl, ⟨Or.inr rfl, ⟨Or.inl rfl, ⟨Or.inl rfl, ⟨Or.inl rfl, ⟨Or.inl rfl, ⟨Or.inl rfl, ⟨Or.inl rfl, trivial⟩⟩⟩⟩⟩⟩⟩⟩⟩⟩⟩⟩⟩⟩⟩⟩⟩⟩⟩⟩⟩⟩ ?_
          exact kk Fh935 hM hcs ht
        · skip
          exact absurd c_971 (by omega)
      · skip
        refine x_iload hC d_Law_law_942 rfl ?_
        refine x_aload_n hC d_Law_law_944 rfl rfl ?_
        refine x_iload hC d_Law_law_945 rfl ?_
        refine x_iload hC d_Law_law_947 rfl ?_
        refine x_callS hC ks_Law_75 (c_Law_symbol (hv := by omega)) (by decide) rfl rfl rfl (Nat.le_of_ble_eq_true rfl) ⟨by omega, by omega⟩ d_Law_law_949 (fun r9 F9 z9 hp9 => ?_)
        obtain ⟨rfl, h9b, h9c⟩ := hp9
        rw [h9b, h9c]
        clear h9b h9c F9 z9
        obtain ⟨b0, -⟩ := id hM
        refine x_top (v := (nI (97 + j))) (by rw [Nat.mod_eq_of_lt (by omega)]) ?_
        refine x_callV hC kv_Law_245 (c_MessageCoder_countOfK (hM := hM) (hA := hA) (hZx := hZx) (n0 := m2_) (he := m3_) (n1 := by omega) (A := A) (e := e)) b0 rfl rfl (by decide) rfl rfl rfl (Nat.le_of_ble_eq_true rfl) ⟨by omega, by omega⟩ d_Law_law_952 (fun r9 F9 z9 hp9 => ?_)
        obtain ⟨rfl, h9b, h9c⟩ := hp9
        rw [h9b, h9c]
        clear h9b h9c F9 z9
        refine x_iadd hC d_Law_law_955 (v := (nI ((sumN (fun j => tmOf e.2.2.2 (97 + j) e.2.2.1) j) + (tmOf e.2.2.2 (97 + j) e.2.2.1)))) (x_addN (by omega)) ?_
        refine x_top (v := (nI (sumN (fun j => tmOf e.2.2.2 (97 + j) e.2.2.1) (j + 1)))) (by rw [sumN]) ?_
        refine x_istore hC d_Law_law_956 (Nat.le_of_ble_eq_true rfl) (L1 := [some (.ref a), some (.ref b), some (.int (nI (T))), some (.int (nI (sumN (fun j => A.1 j * hLen A.1 j) 8))), some (.int (nI (sumN A.1 8))), some (.int (nI (maxN (hLen A.1) 8))), some (.int (nI (A.2.2.1.1))), some (.ref ca), none, some (.int (nI (i))), some (.int (nI (e.1))), some (.int (nI 0)), none, some (.int (nI (su))), some (.ref s14), some (.ref s15), some (.int (nI (sumN (fun j => tmOf e.2.2.2 (97 + j) e.2.2.1) (j + 1)))), some (.int (nI (j))), none, none, none, none]) rfl ?_
        refine x_iinc hC d_Law_law_958 rfl (v := (nI (j + 1))) (x_incN 1) (Nat.le_of_ble_eq_true rfl) (L1 := [some (.ref a), some (.ref b), some (.int (nI (T))), some (.int (nI (sumN (fun j => A.1 j * hLen A.1 j) 8))), some (.int (nI (sumN A.1 8))), some (.int (nI (maxN (hLen A.1) 8))), some (.int (nI (A.2.2.1.1))), some (.ref ca), none, some (.int (nI (i))), some (.int (nI (e.1))), some (.int (nI 0)), none, some (.int (nI (su))), some (.ref s14), some (.ref s15), some (.int (nI (sumN (fun j => tmOf e.2.2.2 (97 + j) e.2.2.1) (j + 1)))), some (.int (nI (j + 1))), none, none, none, none]) rfl ?_
        refine x_goto hC d_Law_law_961 (tgt := 935) (by decide) ?_
        refine x_widen (k1 := k + 2 * (j + 1)) (n1 := n + 12 * (j + 1)) (by omega) (by omega) ?_
        exact ih_935 Fh935 (j + 1) hM hcs ht (by omega) (by omega)
  refine x_widen (k1 := k + 2 * 0) (n1 := n + 12 * 0) (by omega) (by omega) ?_
  exact loop_935 (8 - 0 + 1) F (0) hM hcs ht (by omega) (by omega)

set_option maxHeartbeats 4000000 in
set_option maxRecDepth 20000 in
theorem l_m5 {P : xP} {Θ : xT} {fo : Nat} {o1 : Nat} {o2 : Nat} {rt : Nat} {cm : cmT} {sm : Nat} {a : Nat} {N : Nat} {xs : Nat → Int32} {qe : Nat} {qq : Nat} {qx : Nat} {qc : Nat} (hG : xGl P Θ fo o1 o2 rt cm sm a N xs qe qq qx qc) {b : Nat} {M : mcS} {A : aS} {q : Nat} {T : Nat} {ca : Nat} {ce : Nat} {i : Nat} {e : mS} {s14 : Nat} {s15 : Nat} {su : Nat} {F : xF} {z k n : Nat} (hM : xMC F (cm) (b) (M)) (hcs : xCs F (ca) (ce) (A.1) (8)) (ht : xTs F (s14) (txl e.2.2.2 e.2.2.1)) (hA : M.1 = A) (hB : pBd M q) (hq : q ≤ 900) (hz : b + 566 ≤ ca) (hce : ce ≤ z) (hi : i < A.2.2.1.1) (he : A.2.2.1.2.2 (mRk A (nI i)) = e) (hs14 : ce ≤ s14 ∧ s14 + 2 ≤ z) (hs15 : ce ≤ s15 ∧ s15 + 2 ≤ z) (hk : k + 5000 ≤ 644766) (hn : n + 500000 ≤ 7153085) (kk : ∀ (F1 : xF), xMC F1 cm b M → xCs F1 ca ce A.1 8 → xX P Θ 1167 [some (.ref a), some (.ref b), some (.int (nI (T))), some (.int (nI (sumN (fun j => A.1 j * hLen A.1 j) 8))), some (.int (nI (sumN A.1 8))), some (.int (nI (maxN (hLen A.1) 8))), some (.int (nI (A.2.2.1.1))), some (.ref ca), none, some (.int (nI (i))), none, none, none, none, none, none, none, none, none, none, none, none] [] F1 z (k + 100) (n + 1000)) : xX P Θ 976 [some (.ref a), some (.ref b), some (.int (nI (T))), some (.int (nI (sumN (fun j => A.1 j * hLen A.1 j) 8))), some (.int (nI (sumN A.1 8))), some (.int (nI (maxN (hLen A.1) 8))), some (.int (nI (A.2.2.1.1))), some (.ref ca), none, some (.int (nI (i))), some (.int (nI (e.1))), some (.int (nI 0)), none, some (.int (nI (su))), some (.ref s14), some (.ref s15), none, none, none, none, none, none] [] F (z) k n := by
  obtain ⟨hC, hZx, hNx, hJ, hD, hSR, hCM, hSM, hS, hE, hEo, hQ, hQo, hX, hXo, hK, hKo⟩ := hG
  have hI : pInv A := hA ▸ hB.1
  obtain ⟨⟨i1_, i2_, i3_, i4_, i5_⟩, iw, idr, im, io, ib, it⟩ := id hI
  have hcc := hcs.1
  obtain ⟨m1_, m2_, m3_, m4_⟩ := msg_at hI (by have := hB.2.2.2.1; rw [hA] at this; omega) hi
  rw [he] at m2_ m3_ m4_
  obtain ⟨e1_, e2_, e3_, e4_⟩ := id m4_
  have hnx : A.2.2.1.2.1 ≤ 900 := by have := hB.2.2.2.1; rw [hA] at this; omega
  have hb112 : bitsN (hLen A.1) e.2.2.2 e.2.2.1 ≤ 112 := Nat.le_trans (bitsN_le (fun j hj => hLen_7 A.1 hj) _ _) (by omega)
  refine x_iload hC d_Law_law_976 rfl ?_
  refine x_ifN_ne hC d_Law_law_978 (tgt := 984) (by decide) (by omega) (fun c_978 => ?_) (fun c_978 => ?_)
  · skip
    obtain ⟨f, hf⟩ : ∃ f, A.2.2.1.2.2 (mRk A (nI (i - 1))) = f := ⟨_, rfl⟩
    obtain ⟨n1_, n2_, n3_, n4_⟩ := msg_at hI (by omega) (show i - 1 < A.2.2.1.1 by omega)
    rw [hf] at n2_ n3_ n4_
    obtain ⟨f1_, f2_, f3_, f4_⟩ := id n4_
    have hbf := msg_ord hI (show 1 ≤ i by omega) hi
    rw [hf, he] at hbf
    have hbp : e.2.1 ≤ f.2.1 ∧ (f.2.1 = e.2.1 → f.1 < e.1) := by unfold befM at hbf; omega
    obtain ⟨cl, hcl⟩ : ∃ cl, lcs e.2.2.2 f.2.2.2 e.2.2.1 f.2.2.1 = cl := ⟨_, rfl⟩
    have hc1 : cl ≤ e.2.2.1 := by rw [← hcl]; exact lcs_lei _ _ _ _
    have hc2 : cl ≤ f.2.2.1 := by rw [← hcl]; exact lcs_le _ _ _ _
    have hc3 : lcs f.2.2.2 e.2.2.2 f.2.2.1 e.2.2.1 = cl := by rw [lcs_sym]; exact hcl
    obtain ⟨mn, hmn⟩ : ∃ mn, (if f.2.2.1 < e.2.2.1 then f.2.2.1 else e.2.2.1) = mn := ⟨_, rfl⟩
    have hmn2 : cl ≤ mn ∧ mn ≤ 16 := by rw [← hmn]; split <;> omega
    refine x_aload_n hC d_Law_law_984 rfl rfl ?_
    refine x_iload hC d_Law_law_985 rfl ?_
    refine x_iconst hC d_Law_law_987 (v := nI 1) (by decide) ?_
    refine x_isub hC d_Law_law_988 (v := (nI ((i) - 1))) (pk_sub (by omega)) ?_
    obtain ⟨b0, -⟩ := id hM
    refine x_callV hC kv_Law_55 (c_MessageCoder_messageAtK (hM := hM) (hA := hA) (hZx := hZx) (n0 := n1_) (A := A)) b0 rfl rfl (by decide) rfl rfl rfl (Nat.le_of_ble_eq_true rfl) ⟨by omega, by omega⟩ d_Law_law_989 (fun r9 F9 z9 hp9 => ?_)
    obtain ⟨rfl, h9b, h9c⟩ := hp9
    rw [h9b, h9c]
    clear h9b h9c F9 z9
    refine x_top (v := (nI (f.1))) (by rw [hf]) ?_
    refine x_istore hC d_Law_law_992 (Nat.le_of_ble_eq_true rfl) (L1 := [some (.ref a), some (.ref b), some (.int (nI (T))), some (.int (nI (sumN (fun j => A.1 j * hLen A.1 j) 8))), some (.int (nI (sumN A.1 8))), some (.int (nI (maxN (hLen A.1) 8))), some (.int (nI (A.2.2.1.1))), some (.ref ca), none, some (.int (nI (i))), some (.int (nI (e.1))), some (.int (nI 0)), none, some (.int (nI (su))), some (.ref s14), some (.ref s15), none, some (.int (nI (f.1))), none, none, none, none]) rfl ?_
    refine x_aload_n hC d_Law_law_994 rfl rfl ?_
    refine x_iload hC d_Law_law_995 rfl ?_
    obtain ⟨b0, -⟩ := id hM
    refine x_callV hC kv_Law_230 (c_MessageCoder_priorityOfK (hM := hM) (hA := hA) (hZx := hZx) (n0 := n2_) (he := n3_) (A := A) (e := f)) b0 rfl rfl (by decide) rfl rfl rfl (Nat.le_of_ble_eq_true rfl) ⟨by omega, by omega⟩ d_Law_law_997 (fun r9 F9 z9 hp9 => ?_)
    obtain ⟨rfl, h9b, h9c⟩ := hp9
    rw [h9b, h9c]
    clear h9b h9c F9 z9
    refine x_aload_n hC d_Law_law_1000 rfl rfl ?_
    refine x_iload hC d_Law_law_1001 rfl ?_
    obtain ⟨b0, -⟩ := id hM
    refine x_callV hC kv_Law_230 (c_MessageCoder_priorityOfK (hM := hM) (hA := hA) (hZx := hZx) (n0 := m2_) (he := m3_) (A := A) (e := e)) b0 rfl rfl (by decide) rfl rfl rfl (Nat.le_of_ble_eq_true rfl) ⟨by omega, by omega⟩ d_Law_law_1003 (fun r9 F9 z9 hp9 => ?_)
    obtain ⟨rfl, h9b, h9c⟩ := hp9
    rw [h9b, h9c]
    clear h9b h9c F9 z9
    refine x_isub hC d_Law_law_1006 (v := (nI ((f.2.1) - (e.2.1)))) (pk_sub (by omega)) ?_
    refine x_istore hC d_Law_law_1007 (Nat.le_of_ble_eq_true rfl) (L1 := [some (.ref a), some (.ref b), some (.int (nI (T))), some (.int (nI (sumN (fun j => A.1 j * hLen A.1 j) 8))), some (.int (nI (sumN A.1 8))), some (.int (nI (maxN (hLen A.1) 8))), some (.int (nI (A.2.2.1.1))), some (.ref ca), none, some (.int (nI (i))), some (.int (nI (e.1))), some (.int (nI 0)), none, some (.int (nI (su))), some (.ref s14), some (.ref s15), none, some (.int (nI (f.1))), some (.int (nI ((f.2.1) - (e.2.1)))), none, none, none]) rfl ?_
    refine x_aload_n hC d_Law_law_1009 rfl rfl ?_
    refine x_iload hC d_Law_law_1010 rfl ?_
    refine x_iload hC d_Law_law_1012 rfl ?_
    obtain ⟨b0, -⟩ := id hM
    refine x_callV hC kv_Law_242 (c_MessageCoder_commonLengthK (hM := hM) (hA := hA) (hZx := hZx) (n0 := m2_) (he := m3_) (m0 := n2_) (he2 := n3_) (A := A) (e := e) (e2 := f)) b0 rfl rfl (by decide) rfl rfl rfl (Nat.le_of_ble_eq_true rfl) ⟨by omega, by omega⟩ d_Law_law_1014 (fun r9 F9 z9 hp9 => ?_)
    obtain ⟨rfl, h9c, j0, hag9⟩ := hp9
    rw [h9c]
    clear h9c z9
    generalize F9 = F1 at *
    have hcs : xCs F1 (ca) (ce) (A.1) (8) := xCs_fr hcs (fun a9 q1 q2 => hag9 a9 (by omega))
    have ht : xTs F1 (s14) (txl e.2.2.2 e.2.2.1) := xTs_fr ht (fun a9 q1 q2 => hag9 a9 (by omega))
    have hM : xMC F1 (cm) (b) (M) := j0
    have hg_1014 := hag9
    clear hag9
    refine x_top (v := (nI (cl))) (by rw [hcl]) ?_
    refine x_istore hC d_Law_law_1017 (Nat.le_of_ble_eq_true rfl) (L1 := [some (.ref a), some (.ref b), some (.int (nI (T))), some (.int (nI (sumN (fun j => A.1 j * hLen A.1 j) 8))), some (.int (nI (sumN A.1 8))), some (.int (nI (maxN (hLen A.1) 8))), some (.int (nI (A.2.2.1.1))), some (.ref ca), none, some (.int (nI (i))), some (.int (nI (e.1))), some (.int (nI 0)), none, some (.int (nI (su))), some (.ref s14), some (.ref s15), none, some (.int (nI (f.1))), some (.int (nI ((f.2.1) - (e.2.1)))), some (.int (nI (cl))), none, none]) rfl ?_
    refine x_iload hC d_Law_law_1019 rfl ?_
    refine x_ifN_lt hC d_Law_law_1021 (tgt := 1105) (by decide) (by omega) (fun c_1021 => ?_) (fun c_1021 => ?_)
    · skip
      exact c_1021.elim
    · skip
      refine x_iload hC d_Law_law_1024 rfl ?_
      refine x_ifN_ne hC d_Law_law_1026 (tgt := 1036) (by decide) (by omega) (fun c_1026 => ?_) (fun c_1026 => ?_)
      · skip
        refine x_iload hC d_Law_law_1036 rfl ?_
        refine x_aload_n hC d_Law_law_1038 rfl rfl ?_
        refine x_iload hC d_Law_law_1039 rfl ?_
        refine x_iload hC d_Law_law_1041 rfl ?_
        obtain ⟨b0, -⟩ := id hM
        refine x_callV hC kv_Law_242 (c_MessageCoder_commonLengthK (hM := hM) (hA := hA) (hZx := hZx) (n0 := n2_) (he := n3_) (m0 := m2_) (he2 := m3_) (A := A) (e := f) (e2 := e)) b0 rfl rfl (by decide) rfl rfl rfl (Nat.le_of_ble_eq_true rfl) ⟨by omega, by omega⟩ d_Law_law_1043 (fun r9 F9 z9 hp9 => ?_)
        obtain ⟨rfl, h9c, j0, hag9⟩ := hp9
        rw [h9c]
        clear h9c z9
        generalize F9 = F2 at *
        have hcs : xCs F2 (ca) (ce) (A.1) (8) := xCs_fr hcs (fun a9 q1 q2 => hag9 a9 (by omega))
        have ht : xTs F2 (s14) (txl e.2.2.2 e.2.2.1) := xTs_fr ht (fun a9 q1 q2 => hag9 a9 (by omega))
        have hM : xMC F2 (cm) (b) (M) := j0
        have hg_1043 := hag9
        clear hag9
        refine x_top (v := (nI (cl))) (by rw [hc3]) ?_
        refine x_icmpN_ne hC d_Law_law_1046 (tgt := 1105) (by decide) (by omega) (by omega) (fun c_1046 => ?_) (fun c_1046 => ?_)
        · skip
          exact absurd c_1046 (by omega)
        · skip
          refine x_iload hC d_Law_law_1049 rfl ?_
          refine x_aload hC d_Law_law_1051 rfl ?_
          obtain ⟨u0, s0, -⟩ := id ht
          refine x_callV hC kv_Law_119 (c_String_lengthL (hs := ht) (hJ := hJ) (fo := fo)) s0 rfl rfl (by decide) rfl rfl rfl (Nat.le_of_ble_eq_true rfl) ⟨by omega, by omega⟩ d_Law_law_1053 (fun r9 F9 z9 hp9 => ?_)
          obtain ⟨rfl, h9b, h9c⟩ := hp9
          rw [h9b, h9c]
          clear h9b h9c F9 z9
          refine x_top (v := (nI (e.2.2.1))) (by rw [txl_len]) ?_
          refine x_aload_n hC d_Law_law_1056 rfl rfl ?_
          refine x_iload hC d_Law_law_1057 rfl ?_
          obtain ⟨b0, -⟩ := id hM
          refine x_callV hC kv_Law_215 (c_MessageCoder_lengthOfK (hM := hM) (hA := hA) (hZx := hZx) (n0 := n2_) (he := n3_) (A := A) (e := f)) b0 rfl rfl (by decide) rfl rfl rfl (Nat.le_of_ble_eq_true rfl) ⟨by omega, by omega⟩ d_Law_law_1059 (fun r9 F9 z9 hp9 => ?_)
          obtain ⟨rfl, h9b, h9c⟩ := hp9
          rw [h9b, h9c]
          clear h9b h9c F9 z9
          refine x_mminN hC km_Law_249 (by omega) (by omega) rfl (by decide) (Nat.le_of_ble_eq_true rfl) ⟨by omega, by omega⟩ d_Law_law_1062 (v := mn) hmn ?_
          refine x_icmpN_gt hC d_Law_law_1065 (tgt := 1105) (by decide) (by omega) (by omega) (fun c_1065 => ?_) (fun c_1065 => ?_)
          · skip
            exact absurd c_1065 (by omega)
          · skip
            refine x_aload_n hC d_Law_law_1068 rfl rfl ?_
            refine x_iload hC d_Law_law_1069 rfl ?_
            refine x_iload hC d_Law_law_1071 rfl ?_
            obtain ⟨b0, -⟩ := id hM
            refine x_callV hC kv_Law_238 (c_MessageCoder_areEqualK (hM := hM) (hA := hA) (hZx := hZx) (n0 := m2_) (he := m3_) (m0 := n2_) (he2 := n3_) (A := A) (e := e) (e2 := f)) b0 rfl rfl (by decide) rfl rfl rfl (Nat.le_of_ble_eq_true rfl) ⟨by omega, by omega⟩ d_Law_law_1073 (fun r9 F9 z9 hp9 => ?_)
            obtain ⟨rfl, h9b, h9c⟩ := hp9
            rw [h9b, h9c]
            clear h9b h9c F9 z9
            refine x_iload hC d_Law_law_1076 rfl ?_
            refine x_aload hC d_Law_law_1078 rfl ?_
            obtain ⟨u0, s0, -⟩ := id ht
            refine x_callV hC kv_Law_119 (c_String_lengthL (hs := ht) (hJ := hJ) (fo := fo)) s0 rfl rfl (by decide) rfl rfl rfl (Nat.le_of_ble_eq_true rfl) ⟨by omega, by omega⟩ d_Law_law_1080 (fun r9 F9 z9 hp9 => ?_)
            obtain ⟨rfl, h9b, h9c⟩ := hp9
            rw [h9b, h9c]
            clear h9b h9c F9 z9
            refine x_top (v := (nI (e.2.2.1))) (by rw [txl_len]) ?_
            refine x_icmpN_ne hC d_Law_law_1083 (tgt := 1101) (by decide) (by omega) (by omega) (fun c_1083 => ?_) (fun c_1083 => ?_)
            · skip
              refine x_iconst hC d_Law_law_1101 (v := nI 0) (by decide) ?_
              refine x_top1 (v := (nI (0))) (xb_f (fun h9 => by have h8 := lcs_eq.mp h9; rw [hcl] at h8; omega)) ?_
              refine x_icmpN_eq hC d_Law_law_1102 (tgt := 1107) (by decide) (by omega) (by omega) (fun c_1102 => ?_) (fun c_1102 => ?_)
              · skip
                refine x_iconst hC d_Law_law_1107 (v := nI 0) (by decide) ?_
                refine x_istore hC d_Law_law_1108 (Nat.le_of_ble_eq_true rfl) (L1 := [some (.ref a), some (.ref b), some (.int (nI (T))), some (.int (nI (sumN (fun j => A.1 j * hLen A.1 j) 8))), some (.int (nI (sumN A.1 8))), some (.int (nI (maxN (hLen A.1) 8))), some (.int (nI (A.2.2.1.1))), some (.ref ca), none, some (.int (nI (i))), some (.int (nI (e.1))), some (.int (nI 0)), none, some (.int (nI (su))), some (.ref s14), some (.ref s15), none, some (.int (nI (f.1))), some (.int (nI ((f.2.1) - (e.2.1)))), some (.int (nI (cl))), some (.int (nI 0)), none]) rfl ?_
                refine x_iconst hC d_Law_law_1110 (v := nI 0) (by decide) ?_
                refine x_istore hC d_Law_law_1111 (Nat.le_of_ble_eq_true rfl) (L1 := [some (.ref a), some (.ref b), some (.int (nI (T))), some (.int (nI (sumN (fun j => A.1 j * hLen A.1 j) 8))), some (.int (nI (sumN A.1 8))), some (.int (nI (maxN (hLen A.1) 8))), some (.int (nI (A.2.2.1.1))), some (.ref ca), none, some (.int (nI (i))), some (.int (nI (e.1))), some (.int (nI 0)), none, some (.int (nI (su))), some (.ref s14), some (.ref s15), none, some (.int (nI (f.1))), some (.int (nI ((f.2.1) - (e.2.1)))), some (.int (nI (cl))), some (.int (nI 0)), some (.int (nI 0))]) rfl ?_
                have loop_1113 : ∀ (m9 : Nat) (Fh1113 : xF) (j : Nat) (ls : Nat), (xMC Fh1113 (cm) (b) (M)) → (xCs Fh1113 (ca) (ce) (A.1) (8)) → (xTs Fh1113 (s14) (txl e.2.2.2 e.2.2.1)) → (j ≤ 8) → (ls ≤ cl) → (8 - j < m9) → xX P Θ 1113 [some (.ref a), some (.ref b), some (.int (nI (T))), some (.int (nI (sumN (fun j => A.1 j * hLen A.1 j) 8))), some (.int (nI (sumN A.1 8))), some (.int (nI (maxN (hLen A.1) 8))), some (.int (nI (A.2.2.1.1))), some (.ref ca), none, some (.int (nI (i))), some (.int (nI (e.1))), some (.int (nI 0)), none, some (.int (nI (su))), some (.ref s14), some (.ref s15), none, some (.int (nI (f.1))), some (.int (nI ((f.2.1) - (e.2.1)))), some (.int (nI (cl))), some (.int (nI (ls))), some (.int (nI (j)))] [] Fh1113 (z) (k + 20 + 4 * j) (n + 200 + 24 * j) := by
                  intro m9
                  induction m9 with
                  | zero => intros; omega
                  | succ m9 ih_1113 =>
                    intro Fh1113 j ls hM hcs ht hj hls hm_1113
                    refine x_iload hC d_Law_law_1113 rfl ?_
                    refine x_bipush hC d_Law_law_1115 (v := nI 8) (by decide) ?_
                    refine x_icmpN_ge hC d_Law_law_1117 (tgt := 1158) (by decide) (by omega) (by omega) (fun c_1117 => ?_) (fun c_1117 => ?_)
                    · skip
                      refine x_iload hC d_Law_law_1158 rfl ?_
                      refine x_iload hC d_Law_law_1160 rfl ?_
                      refine x_icmpN_ge hC d_Law_law_1162 (tgt := 1167) (by decide) (by omega) (by omega) (fun c_1162 => ?_) (fun c_1162 => ?_)
                      · skip
                        refine x_widen (k1 := k + 100) (n1 := n + 1000) (by omega) (by omega) ?_
                        refine x_forget (L1 := [some (.ref a), some (.ref b), some (.int (nI (T))), some (.int (nI (sumN (fun j => A.1 j * hLen A.1 j) 8))), some (.int (nI (sumN A.1 8))), some (.int (nI (maxN (hLen A.1) 8))), some (.int (nI (A.2.2.1.1))), some (.ref ca), none, some (.int (nI (i))), none, none, none, none, none, none, none, none, none, none, none, none]) ⟨Or.inr rfl, ⟨Or.inr rfl, ⟨Or.inr rfl, ⟨Or.inr rfl, ⟨Or.inr rfl, ⟨Or.inr rfl, ⟨Or.inr rfl, ⟨Or.inr rfl, ⟨Or.inl rfl, ⟨Or.inr rfl, ⟨Or.inl rfl, ⟨Or.inl rfl, ⟨Or.inl rfl, ⟨Or.inl rfl, ⟨Or.inl rfl, ⟨Or.inl rfl, ⟨Or.inl rfl, ⟨Or.inl rfl, ⟨Or.inl rfl, ⟨Or.inl rfl, ⟨Or.inl rfl, ⟨Or.inl rfl, trivial⟩⟩⟩⟩⟩⟩⟩⟩⟩⟩⟩⟩⟩⟩⟩⟩⟩⟩⟩⟩⟩⟩ ?_
                        exact kk Fh1113 hM hcs
                      · skip
                        exact absurd c_1162 (by omega)
                    · skip
                      obtain ⟨m1, hm1⟩ : ∃ m1, (if tmOf f.2.2.2 (97 + j) f.2.2.1 < tmOf e.2.2.2 (97 + j) e.2.2.1 then tmOf f.2.2.2 (97 + j) f.2.2.1 else tmOf e.2.2.2 (97 + j) e.2.2.1) = m1 := ⟨_, rfl⟩
                      have ht1 := tmOf_le e.2.2.2 (97 + j) e.2.2.1
                      have ht2 := tmOf_le f.2.2.2 (97 + j) f.2.2.1
                      have hm1c : m1 ≤ cl := by rw [← hm1, ← hcl]; rcases lcs_tm e.2.2.2 f.2.2.2 (97 + j) e.2.2.1 f.2.2.1 with h9 | h9 <;> split <;> omega
                      obtain ⟨m2, hm2⟩ : ∃ m2, (if ls < m1 then m1 else ls) = m2 := ⟨_, rfl⟩
                      have hm2c : m2 ≤ cl := by rw [← hm2]; split <;> omega
                      refine x_iload hC d_Law_law_1120 rfl ?_
                      refine x_aload_n hC d_Law_law_1122 rfl rfl ?_
                      refine x_iload hC d_Law_law_1123 rfl ?_
                      refine x_iload hC d_Law_law_1125 rfl ?_
                      refine x_callS hC ks_Law_75 (c_Law_symbol (hv := by omega)) (by decide) rfl rfl rfl (Nat.le_of_ble_eq_true rfl) ⟨by omega, by omega⟩ d_Law_law_1127 (fun r9 F9 z9 hp9 => ?_)
                      obtain ⟨rfl, h9b, h9c⟩ := hp9
                      rw [h9b, h9c]
                      clear h9b h9c F9 z9
                      obtain ⟨b0, -⟩ := id hM
                      refine x_top (v := (nI (97 + j))) (by rw [Nat.mod_eq_of_lt (by omega)]) ?_
                      refine x_callV hC kv_Law_245 (c_MessageCoder_countOfK (hM := hM) (hA := hA) (hZx := hZx) (n0 := m2_) (he := m3_) (n1 := by omega) (A := A) (e := e)) b0 rfl rfl (by decide) rfl rfl rfl (Nat.le_of_ble_eq_true rfl) ⟨by omega, by omega⟩ d_Law_law_1130 (fun r9 F9 z9 hp9 => ?_)
                      obtain ⟨rfl, h9b, h9c⟩ := hp9
                      rw [h9b, h9c]
                      clear h9b h9c F9 z9
                      refine x_aload_n hC d_Law_law_1133 rfl rfl ?_
                      refine x_iload hC d_Law_law_1134 rfl ?_
                      refine x_iload hC d_Law_law_1136 rfl ?_
                      refine x_callS hC ks_Law_75 (c_Law_symbol (hv := by omega)) (by decide) rfl rfl rfl (Nat.le_of_ble_eq_true rfl) ⟨by omega, by omega⟩ d_Law_law_1138 (fun r9 F9 z9 hp9 => ?_)
                      obtain ⟨rfl, h9b, h9c⟩ := hp9
                      rw [h9b, h9c]
                      clear h9b h9c F9 z9
                      obtain ⟨b0, -⟩ := id hM
                      refine x_top (v := (nI (97 + j))) (by rw [Nat.mod_eq_of_lt (by omega)]) ?_
                      refine x_callV hC kv_Law_245 (c_MessageCoder_countOfK (hM := hM) (hA := hA) (hZx := hZx) (n0 := n2_) (he := n3_) (n1 := by omega) (A := A) (e := f)) b0 rfl rfl (by decide) rfl rfl rfl (Nat.le_of_ble_eq_true rfl) ⟨by omega, by omega⟩ d_Law_law_1141 (fun r9 F9 z9 hp9 => ?_)
                      obtain ⟨rfl, h9b, h9c⟩ := hp9
                      rw [h9b, h9c]
                      clear h9b h9c F9 z9
                      refine x_mminN hC km_Law_249 (by omega) (by omega) rfl (by decide) (Nat.le_of_ble_eq_true rfl) ⟨by omega, by omega⟩ d_Law_law_1144 (v := m1) hm1 ?_
                      refine x_mmaxN hC km_Law_172 (by omega) (by omega) rfl (by decide) (Nat.le_of_ble_eq_true rfl) ⟨by omega, by omega⟩ d_Law_law_1147 (v := m2) hm2 ?_
                      refine x_istore hC d_Law_law_1150 (Nat.le_of_ble_eq_true rfl) (L1 := [some (.ref a), some (.ref b), some (.int (nI (T))), some (.int (nI (sumN (fun j => A.1 j * hLen A.1 j) 8))), some (.int (nI (sumN A.1 8))), some (.int (nI (maxN (hLen A.1) 8))), some (.int (nI (A.2.2.1.1))), some (.ref ca), none, some (.int (nI (i))), some (.int (nI (e.1))), some (.int (nI 0)), none, some (.int (nI (su))), some (.ref s14), some (.ref s15), none, some (.int (nI (f.1))), some (.int (nI ((f.2.1) - (e.2.1)))), some (.int (nI (cl))), some (.int (nI (m2))), some (.int (nI (j)))]) rfl ?_
                      refine x_iinc hC d_Law_law_1152 rfl (v := (nI (j + 1))) (x_incN 1) (Nat.le_of_ble_eq_true rfl) (L1 := [some (.ref a), some (.ref b), some (.int (nI (T))), some (.int (nI (sumN (fun j => A.1 j * hLen A.1 j) 8))), some (.int (nI (sumN A.1 8))), some (.int (nI (maxN (hLen A.1) 8))), some (.int (nI (A.2.2.1.1))), some (.ref ca), none, some (.int (nI (i))), some (.int (nI (e.1))), some (.int (nI 0)), none, some (.int (nI (su))), some (.ref s14), some (.ref s15), none, some (.int (nI (f.1))), some (.int (nI ((f.2.1) - (e.2.1)))), some (.int (nI (cl))), some (.int (nI (m2))), some (.int (nI (j + 1)))]) rfl ?_
                      refine x_goto hC d_Law_law_1155 (tgt := 1113) (by decide) ?_
                      refine x_widen (k1 := k + 20 + 4 * (j + 1)) (n1 := n + 200 + 24 * (j + 1)) (by omega) (by omega) ?_
                      exact ih_1113 Fh1113 (j + 1) (m2) hM hcs ht (by omega) (by omega) (by omega)
                refine x_widen (k1 := k + 20 + 4 * 0) (n1 := n + 200 + 24 * 0) (by omega) (by omega) ?_
                exact loop_1113 (8 - 0 + 1) F2 (0) (0) hM hcs ht (by omega) (by omega) (by omega)
              · skip
                exact absurd c_1102 (by omega)
            · skip
              refine x_iload hC d_Law_law_1086 rfl ?_
              refine x_aload_n hC d_Law_law_1088 rfl rfl ?_
              refine x_iload hC d_Law_law_1089 rfl ?_
              obtain ⟨b0, -⟩ := id hM
              refine x_callV hC kv_Law_215 (c_MessageCoder_lengthOfK (hM := hM) (hA := hA) (hZx := hZx) (n0 := n2_) (he := n3_) (A := A) (e := f)) b0 rfl rfl (by decide) rfl rfl rfl (Nat.le_of_ble_eq_true rfl) ⟨by omega, by omega⟩ d_Law_law_1091 (fun r9 F9 z9 hp9 => ?_)
              obtain ⟨rfl, h9b, h9c⟩ := hp9
              rw [h9b, h9c]
              clear h9b h9c F9 z9
              refine x_icmpN_ne hC d_Law_law_1094 (tgt := 1101) (by decide) (by omega) (by omega) (fun c_1094 => ?_) (fun c_1094 => ?_)
              · skip
                refine x_iconst hC d_Law_law_1101 (v := nI 0) (by decide) ?_
                refine x_top1 (v := (nI (0))) (xb_f (fun h9 => by have h8 := lcs_eq.mp h9; rw [hcl] at h8; omega)) ?_
                refine x_icmpN_eq hC d_Law_law_1102 (tgt := 1107) (by decide) (by omega) (by omega) (fun c_1102 => ?_) (fun c_1102 => ?_)
                · skip
                  refine x_iconst hC d_Law_law_1107 (v := nI 0) (by decide) ?_
                  refine x_istore hC d_Law_law_1108 (Nat.le_of_ble_eq_true rfl) (L1 := [some (.ref a), some (.ref b), some (.int (nI (T))), some (.int (nI (sumN (fun j => A.1 j * hLen A.1 j) 8))), some (.int (nI (sumN A.1 8))), some (.int (nI (maxN (hLen A.1) 8))), some (.int (nI (A.2.2.1.1))), some (.ref ca), none, some (.int (nI (i))), some (.int (nI (e.1))), some (.int (nI 0)), none, some (.int (nI (su))), some (.ref s14), some (.ref s15), none, some (.int (nI (f.1))), some (.int (nI ((f.2.1) - (e.2.1)))), some (.int (nI (cl))), some (.int (nI 0)), none]) rfl ?_
                  refine x_iconst hC d_Law_law_1110 (v := nI 0) (by decide) ?_
                  refine x_istore hC d_Law_law_1111 (Nat.le_of_ble_eq_true rfl) (L1 := [some (.ref a), some (.ref b), some (.int (nI (T))), some (.int (nI (sumN (fun j => A.1 j * hLen A.1 j) 8))), some (.int (nI (sumN A.1 8))), some (.int (nI (maxN (hLen A.1) 8))), some (.int (nI (A.2.2.1.1))), some (.ref ca), none, some (.int (nI (i))), some (.int (nI (e.1))), some (.int (nI 0)), none, some (.int (nI (su))), some (.ref s14), some (.ref s15), none, some (.int (nI (f.1))), some (.int (nI ((f.2.1) - (e.2.1)))), some (.int (nI (cl))), some (.int (nI 0)), some (.int (nI 0))]) rfl ?_
                  have loop_1113 : ∀ (m9 : Nat) (Fh1113 : xF) (j : Nat) (ls : Nat), (xMC Fh1113 (cm) (b) (M)) → (xCs Fh1113 (ca) (ce) (A.1) (8)) → (xTs Fh1113 (s14) (txl e.2.2.2 e.2.2.1)) → (j ≤ 8) → (ls ≤ cl) → (8 - j < m9) → xX P Θ 1113 [some (.ref a), some (.ref b), some (.int (nI (T))), some (.int (nI (sumN (fun j => A.1 j * hLen A.1 j) 8))), some (.int (nI (sumN A.1 8))), some (.int (nI (maxN (hLen A.1) 8))), some (.int (nI (A.2.2.1.1))), some (.ref ca), none, some (.int (nI (i))), some (.int (nI (e.1))), some (.int (nI 0)), none, some (.int (nI (su))), some (.ref s14), some (.ref s15), none, some (.int (nI (f.1))), some (.int (nI ((f.2.1) - (e.2.1)))), some (.int (nI (cl))), some (.int (nI (ls))), some (.int (nI (j)))] [] Fh1113 (z) (k + 20 + 4 * j) (n + 200 + 24 * j) := by
                    intro m9
                    induction m9 with
                    | zero => intros; omega
                    | succ m9 ih_1113 =>
                      intro Fh1113 j ls hM hcs ht hj hls hm_1113
                      refine x_iload hC d_Law_law_1113 rfl ?_
                      refine x_bipush hC d_Law_law_1115 (v := nI 8) (by decide) ?_
                      refine x_icmpN_ge hC d_Law_law_1117 (tgt := 1158) (by decide) (by omega) (by omega) (fun c_1117 => ?_) (fun c_1117 => ?_)
                      · skip
                        refine x_iload hC d_Law_law_1158 rfl ?_
                        refine x_iload hC d_Law_law_1160 rfl ?_
                        refine x_icmpN_ge hC d_Law_law_1162 (tgt := 1167) (by decide) (by omega) (by omega) (fun c_1162 => ?_) (fun c_1162 => ?_)
                        · skip
                          refine x_widen (k1 := k + 100) (n1 := n + 1000) (by omega) (by omega) ?_
                          refine x_forget (L1 := [some (.ref a), some (.ref b), some (.int (nI (T))), some (.int (nI (sumN (fun j => A.1 j * hLen A.1 j) 8))), some (.int (nI (sumN A.1 8))), some (.int (nI (maxN (hLen A.1) 8))), some (.int (nI (A.2.2.1.1))), some (.ref ca), none, some (.int (nI (i))), none, none, none, none, none, none, none, none, none, none, none, none]) ⟨Or.inr rfl, ⟨Or.inr rfl, ⟨Or.inr rfl, ⟨Or.inr rfl, ⟨Or.inr rfl, ⟨Or.inr rfl, ⟨Or.inr rfl, ⟨Or.inr rfl, ⟨Or.inl rfl, ⟨Or.inr rfl, ⟨Or.inl rfl, ⟨Or.inl rfl, ⟨Or.inl rfl, ⟨Or.inl rfl, ⟨Or.inl rfl, ⟨Or.inl rfl, ⟨Or.inl rfl, ⟨Or.inl rfl, ⟨Or.inl rfl, ⟨Or.inl rfl, ⟨Or.inl rfl, ⟨Or.inl rfl, trivial⟩⟩⟩⟩⟩⟩⟩⟩⟩⟩⟩⟩⟩⟩⟩⟩⟩⟩⟩⟩⟩⟩ ?_
                          exact kk Fh1113 hM hcs
                        · skip
                          exact absurd c_1162 (by omega)
                      · skip
                        obtain ⟨m1, hm1⟩ : ∃ m1, (if tmOf f.2.2.2 (97 + j) f.2.2.1 < tmOf e.2.2.2 (97 + j) e.2.2.1 then tmOf f.2.2.2 (97 + j) f.2.2.1 else tmOf e.2.2.2 (97 + j) e.2.2.1) = m1 := ⟨_, rfl⟩
                        have ht1 := tmOf_le e.2.2.2 (97 + j) e.2.2.1
                        have ht2 := tmOf_le f.2.2.2 (97 + j) f.2.2.1
                        have hm1c : m1 ≤ cl := by rw [← hm1, ← hcl]; rcases lcs_tm e.2.2.2 f.2.2.2 (97 + j) e.2.2.1 f.2.2.1 with h9 | h9 <;> split <;> omega
                        obtain ⟨m2, hm2⟩ : ∃ m2, (if ls < m1 then m1 else ls) = m2 := ⟨_, rfl⟩
                        have hm2c : m2 ≤ cl := by rw [← hm2]; split <;> omega
                        refine x_iload hC d_Law_law_1120 rfl ?_
                        refine x_aload_n hC d_Law_law_1122 rfl rfl ?_
                        refine x_iload hC d_Law_law_1123 rfl ?_
                        refine x_iload hC d_Law_law_1125 rfl ?_
                        refine x_callS hC ks_Law_75 (c_Law_symbol (hv := by omega)) (by decide) rfl rfl rfl (Nat.le_of_ble_eq_true rfl) ⟨by omega, by omega⟩ d_Law_law_1127 (fun r9 F9 z9 hp9 => ?_)
                        obtain ⟨rfl, h9b, h9c⟩ := hp9
                        rw [h9b, h9c]
                        clear h9b h9c F9 z9
                        obtain ⟨b0, -⟩ := id hM
                        refine x_top (v := (nI (97 + j))) (by rw [Nat.mod_eq_of_lt (by omega)]) ?_
                        refine x_callV hC kv_Law_245 (c_MessageCoder_countOfK (hM := hM) (hA := hA) (hZx := hZx) (n0 := m2_) (he := m3_) (n1 := by omega) (A := A) (e := e)) b0 rfl rfl (by decide) rfl rfl rfl (Nat.le_of_ble_eq_true rfl) ⟨by omega, by omega⟩ d_Law_law_1130 (fun r9 F9 z9 hp9 => ?_)
                        obtain ⟨rfl, h9b, h9c⟩ := hp9
                        rw [h9b, h9c]
                        clear h9b h9c F9 z9
                        refine x_aload_n hC d_Law_law_1133 rfl rfl ?_
                        refine x_iload hC d_Law_law_1134 rfl ?_
                        refine x_iload hC d_Law_law_1136 rfl ?_
                        refine x_callS hC ks_Law_75 (c_Law_symbol (hv := by omega)) (by decide) rfl rfl rfl (Nat.le_of_ble_eq_true rfl) ⟨by omega, by omega⟩ d_Law_law_1138 (fun r9 F9 z9 hp9 => ?_)
                        obtain ⟨rfl, h9b, h9c⟩ := hp9
                        rw [h9b, h9c]
                        clear h9b h9c F9 z9
                        obtain ⟨b0, -⟩ := id hM
                        refine x_top (v := (nI (97 + j))) (by rw [Nat.mod_eq_of_lt (by omega)]) ?_
                        refine x_callV hC kv_Law_245 (c_MessageCoder_countOfK (hM := hM) (hA := hA) (hZx := hZx) (n0 := n2_) (he := n3_) (n1 := by omega) (A := A) (e := f)) b0 rfl rfl (by decide) rfl rfl rfl (Nat.le_of_ble_eq_true rfl) ⟨by omega, by omega⟩ d_Law_law_1141 (fun r9 F9 z9 hp9 => ?_)
                        obtain ⟨rfl, h9b, h9c⟩ := hp9
                        rw [h9b, h9c]
                        clear h9b h9c F9 z9
                        refine x_mminN hC km_Law_249 (by omega) (by omega) rfl (by decide) (Nat.le_of_ble_eq_true rfl) ⟨by omega, by omega⟩ d_Law_law_1144 (v := m1) hm1 ?_
                        refine x_mmaxN hC km_Law_172 (by omega) (by omega) rfl (by decide) (Nat.le_of_ble_eq_true rfl) ⟨by omega, by omega⟩ d_Law_law_1147 (v := m2) hm2 ?_
                        refine x_istore hC d_Law_law_1150 (Nat.le_of_ble_eq_true rfl) (L1 := [some (.ref a), some (.ref b), some (.int (nI (T))), some (.int (nI (sumN (fun j => A.1 j * hLen A.1 j) 8))), some (.int (nI (sumN A.1 8))), some (.int (nI (maxN (hLen A.1) 8))), some (.int (nI (A.2.2.1.1))), some (.ref ca), none, some (.int (nI (i))), some (.int (nI (e.1))), some (.int (nI 0)), none, some (.int (nI (su))), some (.ref s14), some (.ref s15), none, some (.int (nI (f.1))), some (.int (nI ((f.2.1) - (e.2.1)))), some (.int (nI (cl))), some (.int (nI (m2))), some (.int (nI (j)))]) rfl ?_
                        refine x_iinc hC d_Law_law_1152 rfl (v := (nI (j + 1))) (x_incN 1) (Nat.le_of_ble_eq_true rfl) (L1 := [some (.ref a), some (.ref b), some (.int (nI (T))), some (.int (nI (sumN (fun j => A.1 j * hLen A.1 j) 8))), some (.int (nI (sumN A.1 8))), some (.int (nI (maxN (hLen A.1) 8))), some (.int (nI (A.2.2.1.1))), some (.ref ca), none, some (.int (nI (i))), some (.int (nI (e.1))), some (.int (nI 0)), none, some (.int (nI (su))), some (.ref s14), some (.ref s15), none, some (.int (nI (f.1))), some (.int (nI ((f.2.1) - (e.2.1)))), some (.int (nI (cl))), some (.int (nI (m2))), some (.int (nI (j + 1)))]) rfl ?_
                        refine x_goto hC d_Law_law_1155 (tgt := 1113) (by decide) ?_
                        refine x_widen (k1 := k + 20 + 4 * (j + 1)) (n1 := n + 200 + 24 * (j + 1)) (by omega) (by omega) ?_
                        exact ih_1113 Fh1113 (j + 1) (m2) hM hcs ht (by omega) (by omega) (by omega)
                  refine x_widen (k1 := k + 20 + 4 * 0) (n1 := n + 200 + 24 * 0) (by omega) (by omega) ?_
                  exact loop_1113 (8 - 0 + 1) F2 (0) (0) hM hcs ht (by omega) (by omega) (by omega)
                · skip
                  exact absurd c_1102 (by omega)
              · skip
                refine x_iconst hC d_Law_law_1097 (v := nI 1) (by decide) ?_
                refine x_goto hC d_Law_law_1098 (tgt := 1102) (by decide) ?_
                refine x_top1 (v := (nI (1))) (xb_t (lcs_eq.mpr (by rw [hcl]; omega))) ?_
                refine x_icmpN_eq hC d_Law_law_1102 (tgt := 1107) (by decide) (by omega) (by omega) (fun c_1102 => ?_) (fun c_1102 => ?_)
                · skip
                  refine x_iconst hC d_Law_law_1107 (v := nI 0) (by decide) ?_
                  refine x_istore hC d_Law_law_1108 (Nat.le_of_ble_eq_true rfl) (L1 := [some (.ref a), some (.ref b), some (.int (nI (T))), some (.int (nI (sumN (fun j => A.1 j * hLen A.1 j) 8))), some (.int (nI (sumN A.1 8))), some (.int (nI (maxN (hLen A.1) 8))), some (.int (nI (A.2.2.1.1))), some (.ref ca), none, some (.int (nI (i))), some (.int (nI (e.1))), some (.int (nI 0)), none, some (.int (nI (su))), some (.ref s14), some (.ref s15), none, some (.int (nI (f.1))), some (.int (nI ((f.2.1) - (e.2.1)))), some (.int (nI (cl))), some (.int (nI 0)), none]) rfl ?_
                  refine x_iconst hC d_Law_law_1110 (v := nI 0) (by decide) ?_
                  refine x_istore hC d_Law_law_1111 (Nat.le_of_ble_eq_true rfl) (L1 := [some (.ref a), some (.ref b), some (.int (nI (T))), some (.int (nI (sumN (fun j => A.1 j * hLen A.1 j) 8))), some (.int (nI (sumN A.1 8))), some (.int (nI (maxN (hLen A.1) 8))), some (.int (nI (A.2.2.1.1))), some (.ref ca), none, some (.int (nI (i))), some (.int (nI (e.1))), some (.int (nI 0)), none, some (.int (nI (su))), some (.ref s14), some (.ref s15), none, some (.int (nI (f.1))), some (.int (nI ((f.2.1) - (e.2.1)))), some (.int (nI (cl))), some (.int (nI 0)), some (.int (nI 0))]) rfl ?_
                  have loop_1113 : ∀ (m9 : Nat) (Fh1113 : xF) (j : Nat) (ls : Nat), (xMC Fh1113 (cm) (b) (M)) → (xCs Fh1113 (ca) (ce) (A.1) (8)) → (xTs Fh1113 (s14) (txl e.2.2.2 e.2.2.1)) → (j ≤ 8) → (ls ≤ cl) → (8 - j < m9) → xX P Θ 1113 [some (.ref a), some (.ref b), some (.int (nI (T))), some (.int (nI (sumN (fun j => A.1 j * hLen A.1 j) 8))), some (.int (nI (sumN A.1 8))), some (.int (nI (maxN (hLen A.1) 8))), some (.int (nI (A.2.2.1.1))), some (.ref ca), none, some (.int (nI (i))), some (.int (nI (e.1))), some (.int (nI 0)), none, some (.int (nI (su))), some (.ref s14), some (.ref s15), none, some (.int (nI (f.1))), some (.int (nI ((f.2.1) - (e.2.1)))), some (.int (nI (cl))), some (.int (nI (ls))), some (.int (nI (j)))] [] Fh1113 (z) (k + 20 + 4 * j) (n + 200 + 24 * j) := by
                    intro m9
                    induction m9 with
                    | zero => intros; omega
                    | succ m9 ih_1113 =>
                      intro Fh1113 j ls hM hcs ht hj hls hm_1113
                      refine x_iload hC d_Law_law_1113 rfl ?_
                      refine x_bipush hC d_Law_law_1115 (v := nI 8) (by decide) ?_
                      refine x_icmpN_ge hC d_Law_law_1117 (tgt := 1158) (by decide) (by omega) (by omega) (fun c_1117 => ?_) (fun c_1117 => ?_)
                      · skip
                        refine x_iload hC d_Law_law_1158 rfl ?_
                        refine x_iload hC d_Law_law_1160 rfl ?_
                        refine x_icmpN_ge hC d_Law_law_1162 (tgt := 1167) (by decide) (by omega) (by omega) (fun c_1162 => ?_) (fun c_1162 => ?_)
                        · skip
                          refine x_widen (k1 := k + 100) (n1 := n + 1000) (by omega) (by omega) ?_
                          refine x_forget (L1 := [some (.ref a), some (.ref b), some (.int (nI (T))), some (.int (nI (sumN (fun j => A.1 j * hLen A.1 j) 8))), some (.int (nI (sumN A.1 8))), some (.int (nI (maxN (hLen A.1) 8))), some (.int (nI (A.2.2.1.1))), some (.ref ca), none, some (.int (nI (i))), none, none, none, none, none, none, none, none, none, none, none, none]) ⟨Or.inr rfl, ⟨Or.inr rfl, ⟨Or.inr rfl, ⟨Or.inr rfl, ⟨Or.inr rfl, ⟨Or.inr rfl, ⟨Or.inr rfl, ⟨Or.inr rfl, ⟨Or.inl rfl, ⟨Or.inr rfl, ⟨Or.inl rfl, ⟨Or.inl rfl, ⟨Or.inl rfl, ⟨Or.inl rfl, ⟨Or.inl rfl, ⟨Or.inl rfl, ⟨Or.inl rfl, ⟨Or.inl rfl, ⟨Or.inl rfl, ⟨Or.inl rfl, ⟨Or.inl rfl, ⟨Or.inl rfl, trivial⟩⟩⟩⟩⟩⟩⟩⟩⟩⟩⟩⟩⟩⟩⟩⟩⟩⟩⟩⟩⟩⟩ ?_
                          exact kk Fh1113 hM hcs
                        · skip
                          exact absurd c_1162 (by omega)
                      · skip
                        obtain ⟨m1, hm1⟩ : ∃ m1, (if tmOf f.2.2.2 (97 + j) f.2.2.1 < tmOf e.2.2.2 (97 + j) e.2.2.1 then tmOf f.2.2.2 (97 + j) f.2.2.1 else tmOf e.2.2.2 (97 + j) e.2.2.1) = m1 := ⟨_, rfl⟩
                        have ht1 := tmOf_le e.2.2.2 (97 + j) e.2.2.1
                        have ht2 := tmOf_le f.2.2.2 (97 + j) f.2.2.1
                        have hm1c : m1 ≤ cl := by rw [← hm1, ← hcl]; rcases lcs_tm e.2.2.2 f.2.2.2 (97 + j) e.2.2.1 f.2.2.1 with h9 | h9 <;> split <;> omega
                        obtain ⟨m2, hm2⟩ : ∃ m2, (if ls < m1 then m1 else ls) = m2 := ⟨_, rfl⟩
                        have hm2c : m2 ≤ cl := by rw [← hm2]; split <;> omega
                        refine x_iload hC d_Law_law_1120 rfl ?_
                        refine x_aload_n hC d_Law_law_1122 rfl rfl ?_
                        refine x_iload hC d_Law_law_1123 rfl ?_
                        refine x_iload hC d_Law_law_1125 rfl ?_
                        refine x_callS hC ks_Law_75 (c_Law_symbol (hv := by omega)) (by decide) rfl rfl rfl (Nat.le_of_ble_eq_true rfl) ⟨by omega, by omega⟩ d_Law_law_1127 (fun r9 F9 z9 hp9 => ?_)
                        obtain ⟨rfl, h9b, h9c⟩ := hp9
                        rw [h9b, h9c]
                        clear h9b h9c F9 z9
                        obtain ⟨b0, -⟩ := id hM
                        refine x_top (v := (nI (97 + j))) (by rw [Nat.mod_eq_of_lt (by omega)]) ?_
                        refine x_callV hC kv_Law_245 (c_MessageCoder_countOfK (hM := hM) (hA := hA) (hZx := hZx) (n0 := m2_) (he := m3_) (n1 := by omega) (A := A) (e := e)) b0 rfl rfl (by decide) rfl rfl rfl (Nat.le_of_ble_eq_true rfl) ⟨by omega, by omega⟩ d_Law_law_1130 (fun r9 F9 z9 hp9 => ?_)
                        obtain ⟨rfl, h9b, h9c⟩ := hp9
                        rw [h9b, h9c]
                        clear h9b h9c F9 z9
                        refine x_aload_n hC d_Law_law_1133 rfl rfl ?_
                        refine x_iload hC d_Law_law_1134 rfl ?_
                        refine x_iload hC d_Law_law_1136 rfl ?_
                        refine x_callS hC ks_Law_75 (c_Law_symbol (hv := by omega)) (by decide) rfl rfl rfl (Nat.le_of_ble_eq_true rfl) ⟨by omega, by omega⟩ d_Law_law_1138 (fun r9 F9 z9 hp9 => ?_)
                        obtain ⟨rfl, h9b, h9c⟩ := hp9
                        rw [h9b, h9c]
                        clear h9b h9c F9 z9
                        obtain ⟨b0, -⟩ := id hM
                        refine x_top (v := (nI (97 + j))) (by rw [Nat.mod_eq_of_lt (by omega)]) ?_
                        refine x_callV hC kv_Law_245 (c_MessageCoder_countOfK (hM := hM) (hA := hA) (hZx := hZx) (n0 := n2_) (he := n3_) (n1 := by omega) (A := A) (e := f)) b0 rfl rfl (by decide) rfl rfl rfl (Nat.le_of_ble_eq_true rfl) ⟨by omega, by omega⟩ d_Law_law_1141 (fun r9 F9 z9 hp9 => ?_)
                        obtain ⟨rfl, h9b, h9c⟩ := hp9
                        rw [h9b, h9c]
                        clear h9b h9c F9 z9
                        refine x_mminN hC km_Law_249 (by omega) (by omega) rfl (by decide) (Nat.le_of_ble_eq_true rfl) ⟨by omega, by omega⟩ d_Law_law_1144 (v := m1) hm1 ?_
                        refine x_mmaxN hC km_Law_172 (by omega) (by omega) rfl (by decide) (Nat.le_of_ble_eq_true rfl) ⟨by omega, by omega⟩ d_Law_law_1147 (v := m2) hm2 ?_
                        refine x_istore hC d_Law_law_1150 (Nat.le_of_ble_eq_true rfl) (L1 := [some (.ref a), some (.ref b), some (.int (nI (T))), some (.int (nI (sumN (fun j => A.1 j * hLen A.1 j) 8))), some (.int (nI (sumN A.1 8))), some (.int (nI (maxN (hLen A.1) 8))), some (.int (nI (A.2.2.1.1))), some (.ref ca), none, some (.int (nI (i))), some (.int (nI (e.1))), some (.int (nI 0)), none, some (.int (nI (su))), some (.ref s14), some (.ref s15), none, some (.int (nI (f.1))), some (.int (nI ((f.2.1) - (e.2.1)))), some (.int (nI (cl))), some (.int (nI (m2))), some (.int (nI (j)))]) rfl ?_
                        refine x_iinc hC d_Law_law_1152 rfl (v := (nI (j + 1))) (x_incN 1) (Nat.le_of_ble_eq_true rfl) (L1 := [some (.ref a), some (.ref b), some (.int (nI (T))), some (.int (nI (sumN (fun j => A.1 j * hLen A.1 j) 8))), some (.int (nI (sumN A.1 8))), some (.int (nI (maxN (hLen A.1) 8))), some (.int (nI (A.2.2.1.1))), some (.ref ca), none, some (.int (nI (i))), some (.int (nI (e.1))), some (.int (nI 0)), none, some (.int (nI (su))), some (.ref s14), some (.ref s15), none, some (.int (nI (f.1))), some (.int (nI ((f.2.1) - (e.2.1)))), some (.int (nI (cl))), some (.int (nI (m2))), some (.int (nI (j + 1)))]) rfl ?_
                        refine x_goto hC d_Law_law_1155 (tgt := 1113) (by decide) ?_
                        refine x_widen (k1 := k + 20 + 4 * (j + 1)) (n1 := n + 200 + 24 * (j + 1)) (by omega) (by omega) ?_
                        exact ih_1113 Fh1113 (j + 1) (m2) hM hcs ht (by omega) (by omega) (by omega)
                  refine x_widen (k1 := k + 20 + 4 * 0) (n1 := n + 200 + 24 * 0) (by omega) (by omega) ?_
                  exact loop_1113 (8 - 0 + 1) F2 (0) (0) hM hcs ht (by omega) (by omega) (by omega)
                · skip
                  exact absurd c_1102 (by omega)
      · skip
        refine x_iload hC d_Law_law_1029 rfl ?_
        refine x_iload hC d_Law_law_1031 rfl ?_
        refine x_icmpN_gt hC d_Law_law_1033 (tgt := 1105) (by decide) (by omega) (by omega) (fun c_1033 => ?_) (fun c_1033 => ?_)
        · skip
          exact absurd c_1033 (by omega)
        · skip
          refine x_iload hC d_Law_law_1036 rfl ?_
          refine x_aload_n hC d_Law_law_1038 rfl rfl ?_
          refine x_iload hC d_Law_law_1039 rfl ?_
          refine x_iload hC d_Law_law_1041 rfl ?_
          obtain ⟨b0, -⟩ := id hM
          refine x_callV hC kv_Law_242 (c_MessageCoder_commonLengthK (hM := hM) (hA := hA) (hZx := hZx) (n0 := n2_) (he := n3_) (m0 := m2_) (he2 := m3_) (A := A) (e := f) (e2 := e)) b0 rfl rfl (by decide) rfl rfl rfl (Nat.le_of_ble_eq_true rfl) ⟨by omega, by omega⟩ d_Law_law_1043 (fun r9 F9 z9 hp9 => ?_)
          obtain ⟨rfl, h9c, j0, hag9⟩ := hp9
          rw [h9c]
          clear h9c z9
          generalize F9 = F3 at *
          have hcs : xCs F3 (ca) (ce) (A.1) (8) := xCs_fr hcs (fun a9 q1 q2 => hag9 a9 (by omega))
          have ht : xTs F3 (s14) (txl e.2.2.2 e.2.2.1) := xTs_fr ht (fun a9 q1 q2 => hag9 a9 (by omega))
          have hM : xMC F3 (cm) (b) (M) := j0
          have hg_1043 := hag9
          clear hag9
          refine x_top (v := (nI (cl))) (by rw [hc3]) ?_
          refine x_icmpN_ne hC d_Law_law_1046 (tgt := 1105) (by decide) (by omega) (by omega) (fun c_1046 => ?_) (fun c_1046 => ?_)
          · skip
            exact absurd c_1046 (by omega)
          · skip
            refine x_iload hC d_Law_law_1049 rfl ?_
            refine x_aload hC d_Law_law_1051 rfl ?_
            obtain ⟨u0, s0, -⟩ := id ht
            refine x_callV hC kv_Law_119 (c_String_lengthL (hs := ht) (hJ := hJ) (fo := fo)) s0 rfl rfl (by decide) rfl rfl rfl (Nat.le_of_ble_eq_true rfl) ⟨by omega, by omega⟩ d_Law_law_1053 (fun r9 F9 z9 hp9 => ?_)
            obtain ⟨rfl, h9b, h9c⟩ := hp9
            rw [h9b, h9c]
            clear h9b h9c F9 z9
            refine x_top (v := (nI (e.2.2.1))) (by rw [txl_len]) ?_
            refine x_aload_n hC d_Law_law_1056 rfl rfl ?_
            refine x_iload hC d_Law_law_1057 rfl ?_
            obtain ⟨b0, -⟩ := id hM
            refine x_callV hC kv_Law_215 (c_MessageCoder_lengthOfK (hM := hM) (hA := hA) (hZx := hZx) (n0 := n2_) (he := n3_) (A := A) (e := f)) b0 rfl rfl (by decide) rfl rfl rfl (Nat.le_of_ble_eq_true rfl) ⟨by omega, by omega⟩ d_Law_law_1059 (fun r9 F9 z9 hp9 => ?_)
            obtain ⟨rfl, h9b, h9c⟩ := hp9
            rw [h9b, h9c]
            clear h9b h9c F9 z9
            refine x_mminN hC km_Law_249 (by omega) (by omega) rfl (by decide) (Nat.le_of_ble_eq_true rfl) ⟨by omega, by omega⟩ d_Law_law_1062 (v := mn) hmn ?_
            refine x_icmpN_gt hC d_Law_law_1065 (tgt := 1105) (by decide) (by omega) (by omega) (fun c_1065 => ?_) (fun c_1065 => ?_)
            · skip
              exact absurd c_1065 (by omega)
            · skip
              refine x_aload_n hC d_Law_law_1068 rfl rfl ?_
              refine x_iload hC d_Law_law_1069 rfl ?_
              refine x_iload hC d_Law_law_1071 rfl ?_
              obtain ⟨b0, -⟩ := id hM
              refine x_callV hC kv_Law_238 (c_MessageCoder_areEqualK (hM := hM) (hA := hA) (hZx := hZx) (n0 := m2_) (he := m3_) (m0 := n2_) (he2 := n3_) (A := A) (e := e) (e2 := f)) b0 rfl rfl (by decide) rfl rfl rfl (Nat.le_of_ble_eq_true rfl) ⟨by omega, by omega⟩ d_Law_law_1073 (fun r9 F9 z9 hp9 => ?_)
              obtain ⟨rfl, h9b, h9c⟩ := hp9
              rw [h9b, h9c]
              clear h9b h9c F9 z9
              refine x_iload hC d_Law_law_1076 rfl ?_
              refine x_aload hC d_Law_law_1078 rfl ?_
              obtain ⟨u0, s0, -⟩ := id ht
              refine x_callV hC kv_Law_119 (c_String_lengthL (hs := ht) (hJ := hJ) (fo := fo)) s0 rfl rfl (by decide) rfl rfl rfl (Nat.le_of_ble_eq_true rfl) ⟨by omega, by omega⟩ d_Law_law_1080 (fun r9 F9 z9 hp9 => ?_)
              obtain ⟨rfl, h9b, h9c⟩ := hp9
              rw [h9b, h9c]
              clear h9b h9c F9 z9
              refine x_top (v := (nI (e.2.2.1))) (by rw [txl_len]) ?_
              refine x_icmpN_ne hC d_Law_law_1083 (tgt := 1101) (by decide) (by omega) (by omega) (fun c_1083 => ?_) (fun c_1083 => ?_)
              · skip
                refine x_iconst hC d_Law_law_1101 (v := nI 0) (by decide) ?_
                refine x_top1 (v := (nI (0))) (xb_f (fun h9 => by have h8 := lcs_eq.mp h9; rw [hcl] at h8; omega)) ?_
                refine x_icmpN_eq hC d_Law_law_1102 (tgt := 1107) (by decide) (by omega) (by omega) (fun c_1102 => ?_) (fun c_1102 => ?_)
                · skip
                  refine x_iconst hC d_Law_law_1107 (v := nI 0) (by decide) ?_
                  refine x_istore hC d_Law_law_1108 (Nat.le_of_ble_eq_true rfl) (L1 := [some (.ref a), some (.ref b), some (.int (nI (T))), some (.int (nI (sumN (fun j => A.1 j * hLen A.1 j) 8))), some (.int (nI (sumN A.1 8))), some (.int (nI (maxN (hLen A.1) 8))), some (.int (nI (A.2.2.1.1))), some (.ref ca), none, some (.int (nI (i))), some (.int (nI (e.1))), some (.int (nI 0)), none, some (.int (nI (su))), some (.ref s14), some (.ref s15), none, some (.int (nI (f.1))), some (.int (nI ((f.2.1) - (e.2.1)))), some (.int (nI (cl))), some (.int (nI 0)), none]) rfl ?_
                  refine x_iconst hC d_Law_law_1110 (v := nI 0) (by decide) ?_
                  refine x_istore hC d_Law_law_1111 (Nat.le_of_ble_eq_true rfl) (L1 := [some (.ref a), some (.ref b), some (.int (nI (T))), some (.int (nI (sumN (fun j => A.1 j * hLen A.1 j) 8))), some (.int (nI (sumN A.1 8))), some (.int (nI (maxN (hLen A.1) 8))), some (.int (nI (A.2.2.1.1))), some (.ref ca), none, some (.int (nI (i))), some (.int (nI (e.1))), some (.int (nI 0)), none, some (.int (nI (su))), some (.ref s14), some (.ref s15), none, some (.int (nI (f.1))), some (.int (nI ((f.2.1) - (e.2.1)))), some (.int (nI (cl))), some (.int (nI 0)), some (.int (nI 0))]) rfl ?_
                  have loop_1113 : ∀ (m9 : Nat) (Fh1113 : xF) (j : Nat) (ls : Nat), (xMC Fh1113 (cm) (b) (M)) → (xCs Fh1113 (ca) (ce) (A.1) (8)) → (xTs Fh1113 (s14) (txl e.2.2.2 e.2.2.1)) → (j ≤ 8) → (ls ≤ cl) → (8 - j < m9) → xX P Θ 1113 [some (.ref a), some (.ref b), some (.int (nI (T))), some (.int (nI (sumN (fun j => A.1 j * hLen A.1 j) 8))), some (.int (nI (sumN A.1 8))), some (.int (nI (maxN (hLen A.1) 8))), some (.int (nI (A.2.2.1.1))), some (.ref ca), none, some (.int (nI (i))), some (.int (nI (e.1))), some (.int (nI 0)), none, some (.int (nI (su))), some (.ref s14), some (.ref s15), none, some (.int (nI (f.1))), some (.int (nI ((f.2.1) - (e.2.1)))), some (.int (nI (cl))), some (.int (nI (ls))), some (.int (nI (j)))] [] Fh1113 (z) (k + 20 + 4 * j) (n + 200 + 24 * j) := by
                    intro m9
                    induction m9 with
                    | zero => intros; omega
                    | succ m9 ih_1113 =>
                      intro Fh1113 j ls hM hcs ht hj hls hm_1113
                      refine x_iload hC d_Law_law_1113 rfl ?_
                      refine x_bipush hC d_Law_law_1115 (v := nI 8) (by decide) ?_
                      refine x_icmpN_ge hC d_Law_law_1117 (tgt := 1158) (by decide) (by omega) (by omega) (fun c_1117 => ?_) (fun c_1117 => ?_)
                      · skip
                        refine x_iload hC d_Law_law_1158 rfl ?_
                        refine x_iload hC d_Law_law_1160 rfl ?_
                        refine x_icmpN_ge hC d_Law_law_1162 (tgt := 1167) (by decide) (by omega) (by omega) (fun c_1162 => ?_) (fun c_1162 => ?_)
                        · skip
                          refine x_widen (k1 := k + 100) (n1 := n + 1000) (by omega) (by omega) ?_
                          refine x_forget (L1 := [some (.ref a), some (.ref b), some (.int (nI (T))), some (.int (nI (sumN (fun j => A.1 j * hLen A.1 j) 8))), some (.int (nI (sumN A.1 8))), some (.int (nI (maxN (hLen A.1) 8))), some (.int (nI (A.2.2.1.1))), some (.ref ca), none, some (.int (nI (i))), none, none, none, none, none, none, none, none, none, none, none, none]) ⟨Or.inr rfl, ⟨Or.inr rfl, ⟨Or.inr rfl, ⟨Or.inr rfl, ⟨Or.inr rfl, ⟨Or.inr rfl, ⟨Or.inr rfl, ⟨Or.inr rfl, ⟨Or.inl rfl, ⟨Or.inr rfl, ⟨Or.inl rfl, ⟨Or.inl rfl, ⟨Or.inl rfl, ⟨Or.inl rfl, ⟨Or.inl rfl, ⟨Or.inl rfl, ⟨Or.inl rfl, ⟨Or.inl rfl, ⟨Or.inl rfl, ⟨Or.inl rfl, ⟨Or.inl rfl, ⟨Or.inl rfl, trivial⟩⟩⟩⟩⟩⟩⟩⟩⟩⟩⟩⟩⟩⟩⟩⟩⟩⟩⟩⟩⟩⟩ ?_
                          exact kk Fh1113 hM hcs
                        · skip
                          exact absurd c_1162 (by omega)
                      · skip
                        obtain ⟨m1, hm1⟩ : ∃ m1, (if tmOf f.2.2.2 (97 + j) f.2.2.1 < tmOf e.2.2.2 (97 + j) e.2.2.1 then tmOf f.2.2.2 (97 + j) f.2.2.1 else tmOf e.2.2.2 (97 + j) e.2.2.1) = m1 := ⟨_, rfl⟩
                        have ht1 := tmOf_le e.2.2.2 (97 + j) e.2.2.1
                        have ht2 := tmOf_le f.2.2.2 (97 + j) f.2.2.1
                        have hm1c : m1 ≤ cl := by rw [← hm1, ← hcl]; rcases lcs_tm e.2.2.2 f.2.2.2 (97 + j) e.2.2.1 f.2.2.1 with h9 | h9 <;> split <;> omega
                        obtain ⟨m2, hm2⟩ : ∃ m2, (if ls < m1 then m1 else ls) = m2 := ⟨_, rfl⟩
                        have hm2c : m2 ≤ cl := by rw [← hm2]; split <;> omega
                        refine x_iload hC d_Law_law_1120 rfl ?_
                        refine x_aload_n hC d_Law_law_1122 rfl rfl ?_
                        refine x_iload hC d_Law_law_1123 rfl ?_
                        refine x_iload hC d_Law_law_1125 rfl ?_
                        refine x_callS hC ks_Law_75 (c_Law_symbol (hv := by omega)) (by decide) rfl rfl rfl (Nat.le_of_ble_eq_true rfl) ⟨by omega, by omega⟩ d_Law_law_1127 (fun r9 F9 z9 hp9 => ?_)
                        obtain ⟨rfl, h9b, h9c⟩ := hp9
                        rw [h9b, h9c]
                        clear h9b h9c F9 z9
                        obtain ⟨b0, -⟩ := id hM
                        refine x_top (v := (nI (97 + j))) (by rw [Nat.mod_eq_of_lt (by omega)]) ?_
                        refine x_callV hC kv_Law_245 (c_MessageCoder_countOfK (hM := hM) (hA := hA) (hZx := hZx) (n0 := m2_) (he := m3_) (n1 := by omega) (A := A) (e := e)) b0 rfl rfl (by decide) rfl rfl rfl (Nat.le_of_ble_eq_true rfl) ⟨by omega, by omega⟩ d_Law_law_1130 (fun r9 F9 z9 hp9 => ?_)
                        obtain ⟨rfl, h9b, h9c⟩ := hp9
                        rw [h9b, h9c]
                        clear h9b h9c F9 z9
                        refine x_aload_n hC d_Law_law_1133 rfl rfl ?_
                        refine x_iload hC d_Law_law_1134 rfl ?_
                        refine x_iload hC d_Law_law_1136 rfl ?_
                        refine x_callS hC ks_Law_75 (c_Law_symbol (hv := by omega)) (by decide) rfl rfl rfl (Nat.le_of_ble_eq_true rfl) ⟨by omega, by omega⟩ d_Law_law_1138 (fun r9 F9 z9 hp9 => ?_)
                        obtain ⟨rfl, h9b, h9c⟩ := hp9
                        rw [h9b, h9c]
                        clear h9b h9c F9 z9
                        obtain ⟨b0, -⟩ := id hM
                        refine x_top (v := (nI (97 + j))) (by rw [Nat.mod_eq_of_lt (by omega)]) ?_
                        refine x_callV hC kv_Law_245 (c_MessageCoder_countOfK (hM := hM) (hA := hA) (hZx := hZx) (n0 := n2_) (he := n3_) (n1 := by omega) (A := A) (e := f)) b0 rfl rfl (by decide) rfl rfl rfl (Nat.le_of_ble_eq_true rfl) ⟨by omega, by omega⟩ d_Law_law_1141 (fun r9 F9 z9 hp9 => ?_)
                        obtain ⟨rfl, h9b, h9c⟩ := hp9
                        rw [h9b, h9c]
                        clear h9b h9c F9 z9
                        refine x_mminN hC km_Law_249 (by omega) (by omega) rfl (by decide) (Nat.le_of_ble_eq_true rfl) ⟨by omega, by omega⟩ d_Law_law_1144 (v := m1) hm1 ?_
                        refine x_mmaxN hC km_Law_172 (by omega) (by omega) rfl (by decide) (Nat.le_of_ble_eq_true rfl) ⟨by omega, by omega⟩ d_Law_law_1147 (v := m2) hm2 ?_
                        refine x_istore hC d_Law_law_1150 (Nat.le_of_ble_eq_true rfl) (L1 := [some (.ref a), some (.ref b), some (.int (nI (T))), some (.int (nI (sumN (fun j => A.1 j * hLen A.1 j) 8))), some (.int (nI (sumN A.1 8))), some (.int (nI (maxN (hLen A.1) 8))), some (.int (nI (A.2.2.1.1))), some (.ref ca), none, some (.int (nI (i))), some (.int (nI (e.1))), some (.int (nI 0)), none, some (.int (nI (su))), some (.ref s14), some (.ref s15), none, some (.int (nI (f.1))), some (.int (nI ((f.2.1) - (e.2.1)))), some (.int (nI (cl))), some (.int (nI (m2))), some (.int (nI (j)))]) rfl ?_
                        refine x_iinc hC d_Law_law_1152 rfl (v := (nI (j + 1))) (x_incN 1) (Nat.le_of_ble_eq_true rfl) (L1 := [some (.ref a), some (.ref b), some (.int (nI (T))), some (.int (nI (sumN (fun j => A.1 j * hLen A.1 j) 8))), some (.int (nI (sumN A.1 8))), some (.int (nI (maxN (hLen A.1) 8))), some (.int (nI (A.2.2.1.1))), some (.ref ca), none, some (.int (nI (i))), some (.int (nI (e.1))), some (.int (nI 0)), none, some (.int (nI (su))), some (.ref s14), some (.ref s15), none, some (.int (nI (f.1))), some (.int (nI ((f.2.1) - (e.2.1)))), some (.int (nI (cl))), some (.int (nI (m2))), some (.int (nI (j + 1)))]) rfl ?_
                        refine x_goto hC d_Law_law_1155 (tgt := 1113) (by decide) ?_
                        refine x_widen (k1 := k + 20 + 4 * (j + 1)) (n1 := n + 200 + 24 * (j + 1)) (by omega) (by omega) ?_
                        exact ih_1113 Fh1113 (j + 1) (m2) hM hcs ht (by omega) (by omega) (by omega)
                  refine x_widen (k1 := k + 20 + 4 * 0) (n1 := n + 200 + 24 * 0) (by omega) (by omega) ?_
                  exact loop_1113 (8 - 0 + 1) F3 (0) (0) hM hcs ht (by omega) (by omega) (by omega)
                · skip
                  exact absurd c_1102 (by omega)
              · skip
                refine x_iload hC d_Law_law_1086 rfl ?_
                refine x_aload_n hC d_Law_law_1088 rfl rfl ?_
                refine x_iload hC d_Law_law_1089 rfl ?_
                obtain ⟨b0, -⟩ := id hM
                refine x_callV hC kv_Law_215 (c_MessageCoder_lengthOfK (hM := hM) (hA := hA) (hZx := hZx) (n0 := n2_) (he := n3_) (A := A) (e := f)) b0 rfl rfl (by decide) rfl rfl rfl (Nat.le_of_ble_eq_true rfl) ⟨by omega, by omega⟩ d_Law_law_1091 (fun r9 F9 z9 hp9 => ?_)
                obtain ⟨rfl, h9b, h9c⟩ := hp9
                rw [h9b, h9c]
                clear h9b h9c F9 z9
                refine x_icmpN_ne hC d_Law_law_1094 (tgt := 1101) (by decide) (by omega) (by omega) (fun c_1094 => ?_) (fun c_1094 => ?_)
                · skip
                  refine x_iconst hC d_Law_law_1101 (v := nI 0) (by decide) ?_
                  refine x_top1 (v := (nI (0))) (xb_f (fun h9 => by have h8 := lcs_eq.mp h9; rw [hcl] at h8; omega)) ?_
                  refine x_icmpN_eq hC d_Law_law_1102 (tgt := 1107) (by decide) (by omega) (by omega) (fun c_1102 => ?_) (fun c_1102 => ?_)
                  · skip
                    refine x_iconst hC d_Law_law_1107 (v := nI 0) (by decide) ?_
                    refine x_istore hC d_Law_law_1108 (Nat.le_of_ble_eq_true rfl) (L1 := [some (.ref a), some (.ref b), some (.int (nI (T))), some (.int (nI (sumN (fun j => A.1 j * hLen A.1 j) 8))), some (.int (nI (sumN A.1 8))), some (.int (nI (maxN (hLen A.1) 8))), some (.int (nI (A.2.2.1.1))), some (.ref ca), none, some (.int (nI (i))), some (.int (nI (e.1))), some (.int (nI 0)), none, some (.int (nI (su))), some (.ref s14), some (.ref s15), none, some (.int (nI (f.1))), some (.int (nI ((f.2.1) - (e.2.1)))), some (.int (nI (cl))), some (.int (nI 0)), none]) rfl ?_
                    refine x_iconst hC d_Law_law_1110 (v := nI 0) (by decide) ?_
                    refine x_istore hC d_Law_law_1111 (Nat.le_of_ble_eq_true rfl) (L1 := [some (.ref a), some (.ref b), some (.int (nI (T))), some (.int (nI (sumN (fun j => A.1 j * hLen A.1 j) 8))), some (.int (nI (sumN A.1 8))), some (.int (nI (maxN (hLen A.1) 8))), some (.int (nI (A.2.2.1.1))), some (.ref ca), none, some (.int (nI (i))), some (.int (nI (e.1))), some (.int (nI 0)), none, some (.int (nI (su))), some (.ref s14), some (.ref s15), none, some (.int (nI (f.1))), some (.int (nI ((f.2.1) - (e.2.1)))), some (.int (nI (cl))), some (.int (nI 0)), some (.int (nI 0))]) rfl ?_
                    have loop_1113 : ∀ (m9 : Nat) (Fh1113 : xF) (j : Nat) (ls : Nat), (xMC Fh1113 (cm) (b) (M)) → (xCs Fh1113 (ca) (ce) (A.1) (8)) → (xTs Fh1113 (s14) (txl e.2.2.2 e.2.2.1)) → (j ≤ 8) → (ls ≤ cl) → (8 - j < m9) → xX P Θ 1113 [some (.ref a), some (.ref b), some (.int (nI (T))), some (.int (nI (sumN (fun j => A.1 j * hLen A.1 j) 8))), some (.int (nI (sumN A.1 8))), some (.int (nI (maxN (hLen A.1) 8))), some (.int (nI (A.2.2.1.1))), some (.ref ca), none, some (.int (nI (i))), some (.int (nI (e.1))), some (.int (nI 0)), none, some (.int (nI (su))), some (.ref s14), some (.ref s15), none, some (.int (nI (f.1))), some (.int (nI ((f.2.1) - (e.2.1)))), some (.int (nI (cl))), some (.int (nI (ls))), some (.int (nI (j)))] [] Fh1113 (z) (k + 20 + 4 * j) (n + 200 + 24 * j) := by
                      intro m9
                      induction m9 with
                      | zero => intros; omega
                      | succ m9 ih_1113 =>
                        intro Fh1113 j ls hM hcs ht hj hls hm_1113
                        refine x_iload hC d_Law_law_1113 rfl ?_
                        refine x_bipush hC d_Law_law_1115 (v := nI 8) (by decide) ?_
                        refine x_icmpN_ge hC d_Law_law_1117 (tgt := 1158) (by decide) (by omega) (by omega) (fun c_1117 => ?_) (fun c_1117 => ?_)
                        · skip
                          refine x_iload hC d_Law_law_1158 rfl ?_
                          refine x_iload hC d_Law_law_1160 rfl ?_
                          refine x_icmpN_ge hC d_Law_law_1162 (tgt := 1167) (by decide) (by omega) (by omega) (fun c_1162 => ?_) (fun c_1162 => ?_)
                          · skip
                            refine x_widen (k1 := k + 100) (n1 := n + 1000) (by omega) (by omega) ?_
                            refine x_forget (L1 := [some (.ref a), some (.ref b), some (.int (nI (T))), some (.int (nI (sumN (fun j => A.1 j * hLen A.1 j) 8))), some (.int (nI (sumN A.1 8))), some (.int (nI (maxN (hLen A.1) 8))), some (.int (nI (A.2.2.1.1))), some (.ref ca), none, some (.int (nI (i))), none, none, none, none, none, none, none, none, none, none, none, none]) ⟨Or.inr rfl, ⟨Or.inr rfl, ⟨Or.inr rfl, ⟨Or.inr rfl, ⟨Or.inr rfl, ⟨Or.inr rfl, ⟨Or.inr rfl, ⟨Or.inr rfl, ⟨Or.inl rfl, ⟨Or.inr rfl, ⟨Or.inl rfl, ⟨Or.inl rfl, ⟨Or.inl rfl, ⟨Or.inl rfl, ⟨Or.inl rfl, ⟨Or.inl rfl, ⟨Or.inl rfl, ⟨Or.inl rfl, ⟨Or.inl rfl, ⟨Or.inl rfl, ⟨Or.inl rfl, ⟨Or.inl rfl, trivial⟩⟩⟩⟩⟩⟩⟩⟩⟩⟩⟩⟩⟩⟩⟩⟩⟩⟩⟩⟩⟩⟩ ?_
                            exact kk Fh1113 hM hcs
                          · skip
                            exact absurd c_1162 (by omega)
                        · skip
                          obtain ⟨m1, hm1⟩ : ∃ m1, (if tmOf f.2.2.2 (97 + j) f.2.2.1 < tmOf e.2.2.2 (97 + j) e.2.2.1 then tmOf f.2.2.2 (97 + j) f.2.2.1 else tmOf e.2.2.2 (97 + j) e.2.2.1) = m1 := ⟨_, rfl⟩
                          have ht1 := tmOf_le e.2.2.2 (97 + j) e.2.2.1
                          have ht2 := tmOf_le f.2.2.2 (97 + j) f.2.2.1
                          have hm1c : m1 ≤ cl := by rw [← hm1, ← hcl]; rcases lcs_tm e.2.2.2 f.2.2.2 (97 + j) e.2.2.1 f.2.2.1 with h9 | h9 <;> split <;> omega
                          obtain ⟨m2, hm2⟩ : ∃ m2, (if ls < m1 then m1 else ls) = m2 := ⟨_, rfl⟩
                          have hm2c : m2 ≤ cl := by rw [← hm2]; split <;> omega
                          refine x_iload hC d_Law_law_1120 rfl ?_
                          refine x_aload_n hC d_Law_law_1122 rfl rfl ?_
                          refine x_iload hC d_Law_law_1123 rfl ?_
                          refine x_iload hC d_Law_law_1125 rfl ?_
                          refine x_callS hC ks_Law_75 (c_Law_symbol (hv := by omega)) (by decide) rfl rfl rfl (Nat.le_of_ble_eq_true rfl) ⟨by omega, by omega⟩ d_Law_law_1127 (fun r9 F9 z9 hp9 => ?_)
                          obtain ⟨rfl, h9b, h9c⟩ := hp9
                          rw [h9b, h9c]
                          clear h9b h9c F9 z9
                          obtain ⟨b0, -⟩ := id hM
                          refine x_top (v := (nI (97 + j))) (by rw [Nat.mod_eq_of_lt (by omega)]) ?_
                          refine x_callV hC kv_Law_245 (c_MessageCoder_countOfK (hM := hM) (hA := hA) (hZx := hZx) (n0 := m2_) (he := m3_) (n1 := by omega) (A := A) (e := e)) b0 rfl rfl (by decide) rfl rfl rfl (Nat.le_of_ble_eq_true rfl) ⟨by omega, by omega⟩ d_Law_law_1130 (fun r9 F9 z9 hp9 => ?_)
                          obtain ⟨rfl, h9b, h9c⟩ := hp9
                          rw [h9b, h9c]
                          clear h9b h9c F9 z9
                          refine x_aload_n hC d_Law_law_1133 rfl rfl ?_
                          refine x_iload hC d_Law_law_1134 rfl ?_
                          refine x_iload hC d_Law_law_1136 rfl ?_
                          refine x_callS hC ks_Law_75 (c_Law_symbol (hv := by omega)) (by decide) rfl rfl rfl (Nat.le_of_ble_eq_true rfl) ⟨by omega, by omega⟩ d_Law_law_1138 (fun r9 F9 z9 hp9 => ?_)
                          obtain ⟨rfl, h9b, h9c⟩ := hp9
                          rw [h9b, h9c]
                          clear h9b h9c F9 z9
                          obtain ⟨b0, -⟩ := id hM
                          refine x_top (v := (nI (97 + j))) (by rw [Nat.mod_eq_of_lt (by omega)]) ?_
                          refine x_callV hC kv_Law_245 (c_MessageCoder_countOfK (hM := hM) (hA := hA) (hZx := hZx) (n0 := n2_) (he := n3_) (n1 := by omega) (A := A) (e := f)) b0 rfl rfl (by decide) rfl rfl rfl (Nat.le_of_ble_eq_true rfl) ⟨by omega, by omega⟩ d_Law_law_1141 (fun r9 F9 z9 hp9 => ?_)
                          obtain ⟨rfl, h9b, h9c⟩ := hp9
                          rw [h9b, h9c]
                          clear h9b h9c F9 z9
                          refine x_mminN hC km_Law_249 (by omega) (by omega) rfl (by decide) (Nat.le_of_ble_eq_true rfl) ⟨by omega, by omega⟩ d_Law_law_1144 (v := m1) hm1 ?_
                          refine x_mmaxN hC km_Law_172 (by omega) (by omega) rfl (by decide) (Nat.le_of_ble_eq_true rfl) ⟨by omega, by omega⟩ d_Law_law_1147 (v := m2) hm2 ?_
                          refine x_istore hC d_Law_law_1150 (Nat.le_of_ble_eq_true rfl) (L1 := [some (.ref a), some (.ref b), some (.int (nI (T))), some (.int (nI (sumN (fun j => A.1 j * hLen A.1 j) 8))), some (.int (nI (sumN A.1 8))), some (.int (nI (maxN (hLen A.1) 8))), some (.int (nI (A.2.2.1.1))), some (.ref ca), none, some (.int (nI (i))), some (.int (nI (e.1))), some (.int (nI 0)), none, some (.int (nI (su))), some (.ref s14), some (.ref s15), none, some (.int (nI (f.1))), some (.int (nI ((f.2.1) - (e.2.1)))), some (.int (nI (cl))), some (.int (nI (m2))), some (.int (nI (j)))]) rfl ?_
                          refine x_iinc hC d_Law_law_1152 rfl (v := (nI (j + 1))) (x_incN 1) (Nat.le_of_ble_eq_true rfl) (L1 := [some (.ref a), some (.ref b), some (.int (nI (T))), some (.int (nI (sumN (fun j => A.1 j * hLen A.1 j) 8))), some (.int (nI (sumN A.1 8))), some (.int (nI (maxN (hLen A.1) 8))), some (.int (nI (A.2.2.1.1))), some (.ref ca), none, some (.int (nI (i))), some (.int (nI (e.1))), some (.int (nI 0)), none, some (.int (nI (su))), some (.ref s14), some (.ref s15), none, some (.int (nI (f.1))), some (.int (nI ((f.2.1) - (e.2.1)))), some (.int (nI (cl))), some (.int (nI (m2))), some (.int (nI (j + 1)))]) rfl ?_
                          refine x_goto hC d_Law_law_1155 (tgt := 1113) (by decide) ?_
                          refine x_widen (k1 := k + 20 + 4 * (j + 1)) (n1 := n + 200 + 24 * (j + 1)) (by omega) (by omega) ?_
                          exact ih_1113 Fh1113 (j + 1) (m2) hM hcs ht (by omega) (by omega) (by omega)
                    refine x_widen (k1 := k + 20 + 4 * 0) (n1 := n + 200 + 24 * 0) (by omega) (by omega) ?_
                    exact loop_1113 (8 - 0 + 1) F3 (0) (0) hM hcs ht (by omega) (by omega) (by omega)
                  · skip
                    exact absurd c_1102 (by omega)
                · skip
                  refine x_iconst hC d_Law_law_1097 (v := nI 1) (by decide) ?_
                  refine x_goto hC d_Law_law_1098 (tgt := 1102) (by decide) ?_
                  refine x_top1 (v := (nI (1))) (xb_t (lcs_eq.mpr (by rw [hcl]; omega))) ?_
                  refine x_icmpN_eq hC d_Law_law_1102 (tgt := 1107) (by decide) (by omega) (by omega) (fun c_1102 => ?_) (fun c_1102 => ?_)
                  · skip
                    refine x_iconst hC d_Law_law_1107 (v := nI 0) (by decide) ?_
                    refine x_istore hC d_Law_law_1108 (Nat.le_of_ble_eq_true rfl) (L1 := [some (.ref a), some (.ref b), some (.int (nI (T))), some (.int (nI (sumN (fun j => A.1 j * hLen A.1 j) 8))), some (.int (nI (sumN A.1 8))), some (.int (nI (maxN (hLen A.1) 8))), some (.int (nI (A.2.2.1.1))), some (.ref ca), none, some (.int (nI (i))), some (.int (nI (e.1))), some (.int (nI 0)), none, some (.int (nI (su))), some (.ref s14), some (.ref s15), none, some (.int (nI (f.1))), some (.int (nI ((f.2.1) - (e.2.1)))), some (.int (nI (cl))), some (.int (nI 0)), none]) rfl ?_
                    refine x_iconst hC d_Law_law_1110 (v := nI 0) (by decide) ?_
                    refine x_istore hC d_Law_law_1111 (Nat.le_of_ble_eq_true rfl) (L1 := [some (.ref a), some (.ref b), some (.int (nI (T))), some (.int (nI (sumN (fun j => A.1 j * hLen A.1 j) 8))), some (.int (nI (sumN A.1 8))), some (.int (nI (maxN (hLen A.1) 8))), some (.int (nI (A.2.2.1.1))), some (.ref ca), none, some (.int (nI (i))), some (.int (nI (e.1))), some (.int (nI 0)), none, some (.int (nI (su))), some (.ref s14), some (.ref s15), none, some (.int (nI (f.1))), some (.int (nI ((f.2.1) - (e.2.1)))), some (.int (nI (cl))), some (.int (nI 0)), some (.int (nI 0))]) rfl ?_
                    have loop_1113 : ∀ (m9 : Nat) (Fh1113 : xF) (j : Nat) (ls : Nat), (xMC Fh1113 (cm) (b) (M)) → (xCs Fh1113 (ca) (ce) (A.1) (8)) → (xTs Fh1113 (s14) (txl e.2.2.2 e.2.2.1)) → (j ≤ 8) → (ls ≤ cl) → (8 - j < m9) → xX P Θ 1113 [some (.ref a), some (.ref b), some (.int (nI (T))), some (.int (nI (sumN (fun j => A.1 j * hLen A.1 j) 8))), some (.int (nI (sumN A.1 8))), some (.int (nI (maxN (hLen A.1) 8))), some (.int (nI (A.2.2.1.1))), some (.ref ca), none, some (.int (nI (i))), some (.int (nI (e.1))), some (.int (nI 0)), none, some (.int (nI (su))), some (.ref s14), some (.ref s15), none, some (.int (nI (f.1))), some (.int (nI ((f.2.1) - (e.2.1)))), some (.int (nI (cl))), some (.int (nI (ls))), some (.int (nI (j)))] [] Fh1113 (z) (k + 20 + 4 * j) (n + 200 + 24 * j) := by
                      intro m9
                      induction m9 with
                      | zero => intros; omega
                      | succ m9 ih_1113 =>
                        intro Fh1113 j ls hM hcs ht hj hls hm_1113
                        refine x_iload hC d_Law_law_1113 rfl ?_
                        refine x_bipush hC d_Law_law_1115 (v := nI 8) (by decide) ?_
                        refine x_icmpN_ge hC d_Law_law_1117 (tgt := 1158) (by decide) (by omega) (by omega) (fun c_1117 => ?_) (fun c_1117 => ?_)
                        · skip
                          refine x_iload hC d_Law_law_1158 rfl ?_
                          refine x_iload hC d_Law_law_1160 rfl ?_
                          refine x_icmpN_ge hC d_Law_law_1162 (tgt := 1167) (by decide) (by omega) (by omega) (fun c_1162 => ?_) (fun c_1162 => ?_)
                          · skip
                            refine x_widen (k1 := k + 100) (n1 := n + 1000) (by omega) (by omega) ?_
                            refine x_forget (L1 := [some (.ref a), some (.ref b), some (.int (nI (T))), some (.int (nI (sumN (fun j => A.1 j * hLen A.1 j) 8))), some (.int (nI (sumN A.1 8))), some (.int (nI (maxN (hLen A.1) 8))), some (.int (nI (A.2.2.1.1))), some (.ref ca), none, some (.int (nI (i))), none, none, none, none, none, none, none, none, none, none, none, none]) ⟨Or.inr rfl, ⟨Or.inr rfl, ⟨Or.inr rfl, ⟨Or.inr rfl, ⟨Or.inr rfl, ⟨Or.inr rfl, ⟨Or.inr rfl, ⟨Or.inr rfl, ⟨Or.inl rfl, ⟨Or.inr rfl, ⟨Or.inl rfl, ⟨Or.inl rfl, ⟨Or.inl rfl, ⟨Or.inl rfl, ⟨Or.inl rfl, ⟨Or.inl rfl, ⟨Or.inl rfl, ⟨Or.inl rfl, ⟨Or.inl rfl, ⟨Or.inl rfl, ⟨Or.inl rfl, ⟨Or.inl rfl, trivial⟩⟩⟩⟩⟩⟩⟩⟩⟩⟩⟩⟩⟩⟩⟩⟩⟩⟩⟩⟩⟩⟩ ?_
                            exact kk Fh1113 hM hcs
                          · skip
                            exact absurd c_1162 (by omega)
                        · skip
                          obtain ⟨m1, hm1⟩ : ∃ m1, (if tmOf f.2.2.2 (97 + j) f.2.2.1 < tmOf e.2.2.2 (97 + j) e.2.2.1 then tmOf f.2.2.2 (97 + j) f.2.2.1 else tmOf e.2.2.2 (97 + j) e.2.2.1) = m1 := ⟨_, rfl⟩
                          have ht1 := tmOf_le e.2.2.2 (97 + j) e.2.2.1
                          have ht2 := tmOf_le f.2.2.2 (97 + j) f.2.2.1
                          have hm1c : m1 ≤ cl := by rw [← hm1, ← hcl]; rcases lcs_tm e.2.2.2 f.2.2.2 (97 + j) e.2.2.1 f.2.2.1 with h9 | h9 <;> split <;> omega
                          obtain ⟨m2, hm2⟩ : ∃ m2, (if ls < m1 then m1 else ls) = m2 := ⟨_, rfl⟩
                          have hm2c : m2 ≤ cl := by rw [← hm2]; split <;> omega
                          refine x_iload hC d_Law_law_1120 rfl ?_
                          refine x_aload_n hC d_Law_law_1122 rfl rfl ?_
                          refine x_iload hC d_Law_law_1123 rfl ?_
                          refine x_iload hC d_Law_law_1125 rfl ?_
                          refine x_callS hC ks_Law_75 (c_Law_symbol (hv := by omega)) (by decide) rfl rfl rfl (Nat.le_of_ble_eq_true rfl) ⟨by omega, by omega⟩ d_Law_law_1127 (fun r9 F9 z9 hp9 => ?_)
                          obtain ⟨rfl, h9b, h9c⟩ := hp9
                          rw [h9b, h9c]
                          clear h9b h9c F9 z9
                          obtain ⟨b0, -⟩ := id hM
                          refine x_top (v := (nI (97 + j))) (by rw [Nat.mod_eq_of_lt (by omega)]) ?_
                          refine x_callV hC kv_Law_245 (c_MessageCoder_countOfK (hM := hM) (hA := hA) (hZx := hZx) (n0 := m2_) (he := m3_) (n1 := by omega) (A := A) (e := e)) b0 rfl rfl (by decide) rfl rfl rfl (Nat.le_of_ble_eq_true rfl) ⟨by omega, by omega⟩ d_Law_law_1130 (fun r9 F9 z9 hp9 => ?_)
                          obtain ⟨rfl, h9b, h9c⟩ := hp9
                          rw [h9b, h9c]
                          clear h9b h9c F9 z9
                          refine x_aload_n hC d_Law_law_1133 rfl rfl ?_
                          refine x_iload hC d_Law_law_1134 rfl ?_
                          refine x_iload hC d_Law_law_1136 rfl ?_
                          refine x_callS hC ks_Law_75 (c_Law_symbol (hv := by omega)) (by decide) rfl rfl rfl (Nat.le_of_ble_eq_true rfl) ⟨by omega, by omega⟩ d_Law_law_1138 (fun r9 F9 z9 hp9 => ?_)
                          obtain ⟨rfl, h9b, h9c⟩ := hp9
                          rw [h9b, h9c]
                          clear h9b h9c F9 z9
                          obtain ⟨b0, -⟩ := id hM
                          refine x_top (v := (nI (97 + j))) (by rw [Nat.mod_eq_of_lt (by omega)]) ?_
                          refine x_callV hC kv_Law_245 (c_MessageCoder_countOfK (hM := hM) (hA := hA) (hZx := hZx) (n0 := n2_) (he := n3_) (n1 := by omega) (A := A) (e := f)) b0 rfl rfl (by decide) rfl rfl rfl (Nat.le_of_ble_eq_true rfl) ⟨by omega, by omega⟩ d_Law_law_1141 (fun r9 F9 z9 hp9 => ?_)
                          obtain ⟨rfl, h9b, h9c⟩ := hp9
                          rw [h9b, h9c]
                          clear h9b h9c F9 z9
                          refine x_mminN hC km_Law_249 (by omega) (by omega) rfl (by decide) (Nat.le_of_ble_eq_true rfl) ⟨by omega, by omega⟩ d_Law_law_1144 (v := m1) hm1 ?_
                          refine x_mmaxN hC km_Law_172 (by omega) (by omega) rfl (by decide) (Nat.le_of_ble_eq_true rfl) ⟨by omega, by omega⟩ d_Law_law_1147 (v := m2) hm2 ?_
                          refine x_istore hC d_Law_law_1150 (Nat.le_of_ble_eq_true rfl) (L1 := [some (.ref a), some (.ref b), some (.int (nI (T))), some (.int (nI (sumN (fun j => A.1 j * hLen A.1 j) 8))), some (.int (nI (sumN A.1 8))), some (.int (nI (maxN (hLen A.1) 8))), some (.int (nI (A.2.2.1.1))), some (.ref ca), none, some (.int (nI (i))), some (.int (nI (e.1))), some (.int (nI 0)), none, some (.int (nI (su))), some (.ref s14), some (.ref s15), none, some (.int (nI (f.1))), some (.int (nI ((f.2.1) - (e.2.1)))), some (.int (nI (cl))), some (.int (nI (m2))), some (.int (nI (j)))]) rfl ?_
                          refine x_iinc hC d_Law_law_1152 rfl (v := (nI (j + 1))) (x_incN 1) (Nat.le_of_ble_eq_true rfl) (L1 := [some (.ref a), some (.ref b), some (.int (nI (T))), some (.int (nI (sumN (fun j => A.1 j * hLen A.1 j) 8))), some (.int (nI (sumN A.1 8))), some (.int (nI (maxN (hLen A.1) 8))), some (.int (nI (A.2.2.1.1))), some (.ref ca), none, some (.int (nI (i))), some (.int (nI (e.1))), some (.int (nI 0)), none, some (.int (nI (su))), some (.ref s14), some (.ref s15), none, some (.int (nI (f.1))), some (.int (nI ((f.2.1) - (e.2.1)))), some (.int (nI (cl))), some (.int (nI (m2))), some (.int (nI (j + 1)))]) rfl ?_
                          refine x_goto hC d_Law_law_1155 (tgt := 1113) (by decide) ?_
                          refine x_widen (k1 := k + 20 + 4 * (j + 1)) (n1 := n + 200 + 24 * (j + 1)) (by omega) (by omega) ?_
                          exact ih_1113 Fh1113 (j + 1) (m2) hM hcs ht (by omega) (by omega) (by omega)
                    refine x_widen (k1 := k + 20 + 4 * 0) (n1 := n + 200 + 24 * 0) (by omega) (by omega) ?_
                    exact loop_1113 (8 - 0 + 1) F3 (0) (0) hM hcs ht (by omega) (by omega) (by omega)
                  · skip
                    exact absurd c_1102 (by omega)
  · skip
    refine x_goto hC d_Law_law_981 (tgt := 1167) (by decide) ?_
    refine x_widen (k1 := k + 100) (n1 := n + 1000) (by omega) (by omega) ?_
    refine x_forget (L1 := [some (.ref a), some (.ref b), some (.int (nI (T))), some (.int (nI (sumN (fun j => A.1 j * hLen A.1 j) 8))), some (.int (nI (sumN A.1 8))), some (.int (nI (maxN (hLen A.1) 8))), some (.int (nI (A.2.2.1.1))), some (.ref ca), none, some (.int (nI (i))), none, none, none, none, none, none, none, none, none, none, none, none]) ⟨Or.inr rfl, ⟨Or.inr rfl, ⟨Or.inr rfl, ⟨Or.inr rfl, ⟨Or.inr rfl, ⟨Or.inr rfl, ⟨Or.inr rfl, ⟨Or.inr rfl, ⟨Or.inl rfl, ⟨Or.inr rfl, ⟨Or.inl rfl, ⟨Or.inl rfl, ⟨Or.inl rfl, ⟨Or.inl rfl, ⟨Or.inl rfl, ⟨Or.inl rfl, ⟨Or.inl rfl, ⟨Or.inl rfl, ⟨Or.inl rfl, ⟨Or.inl rfl, ⟨Or.inl rfl, ⟨Or.inl rfl, trivial⟩⟩⟩⟩⟩⟩⟩⟩⟩⟩⟩⟩⟩⟩⟩⟩⟩⟩⟩⟩⟩⟩ ?_
    exact kk F hM hcs

