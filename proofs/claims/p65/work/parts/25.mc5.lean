/-! run -/
theorem nI_neg1 {a : Nat} (h : a < 2 ^ 31) : ¬ nI a = -1 := fun e => nI_pos h (by rw [e]; decide)
def rdOk (R : rS) : Prop := R.2.1 ≤ 60 ∧ ∀ j, j < R.2.2.1.1 → R.2.2.1.2.2.1 j < 65536 ∧ R.2.2.1.2.2.2.2 j ≤ 60
def runE (M : mcS) (R : rS) : mcS := (M.1, M.2.1, M.2.2.1, (0, M.2.2.2.1.2), M.2.2.2.2.1, M.2.2.2.2.2.1, M.2.2.2.2.2.2.1, M.2.2.2.2.2.2.2.1, nI R.2.1, M.2.2.2.2.2.2.2.2.2)
def runO (M : mcS) (R : rS) : mcS := (prgA R.2.2.1 M.1, M.2.1, updA M.2.2.1 (M.2.2.2.2.2.2.1 % 9) M.1, (0, M.2.2.2.1.2), M.2.2.2.2.1, M.2.2.2.2.2.1, prgP R.2.2.1 M.1 M.2.2.2.2.2.2.1, prgU R.2.2.1 M.1 M.2.2.2.2.2.2.2.1, M.2.2.2.2.2.2.2.2.1, if (prgS R.2.2.1 M.1 R.2.2.1.1).1 = true then M.2.2.2.2.2.2.2.2.2 else prgV R.2.2.1 M.1)
theorem prgS_ix (K : kS) (A : aS) : ∀ i, (prgS K A i).2.1 ≤ i ∧ ((prgS K A i).1 = false → (prgS K A i).2.1 < i)
  | 0 => ⟨Nat.le_refl 0, fun h => by cases h⟩
  | i + 1 => by
    have ih := prgS_ix K A i
    unfold prgS
    split
    · split
      · exact ⟨by show i ≤ i + 1; omega, fun _ => by show i < i + 1; omega⟩
      · exact ⟨by show i + 1 ≤ i + 1; omega, fun h => by cases h⟩
    · rename_i h
      have h1 := ih.2 (by cases e : (prgS K A i).1 <;> simp_all)
      exact ⟨by omega, fun _ => by omega⟩
theorem prgV_iff {K : kS} {A : aS} (h : ∀ j, j < K.1 → K.2.2.2.2 j ≤ 60) : prgV K A = -1 ↔ (prgS K A K.1).1 = true := by
  unfold prgV
  constructor
  · intro e
    by_cases q : (prgS K A K.1).1 = true
    · exact q
    · rw [if_neg q] at e
      have h1 := (prgS_ix K A K.1).2 (by cases e2 : (prgS K A K.1).1 <;> simp_all)
      have h2 := h _ h1
      exact absurd e (nI_neg1 (by omega))
  · intro e
    exact if_pos e


theorem d_MessageCoder_costByRanges_0 : decode prog_1_method_19_code 0 = .ok (.aload_n 0, 1) := by decide +kernel
theorem d_MessageCoder_costByRanges_1 : decode prog_1_method_19_code 1 = .ok (.getfield 49, 3) := by decide +kernel
theorem d_MessageCoder_costByRanges_4 : decode prog_1_method_19_code 4 = .ok (.aload_n 0, 1) := by decide +kernel
theorem d_MessageCoder_costByRanges_5 : decode prog_1_method_19_code 5 = .ok (.getfield 12, 3) := by decide +kernel
theorem d_MessageCoder_costByRanges_8 : decode prog_1_method_19_code 8 = .ok (.getfield 136, 3) := by decide +kernel
theorem d_MessageCoder_costByRanges_11 : decode prog_1_method_19_code 11 = .ok (.getfield 140, 3) := by decide +kernel
theorem d_MessageCoder_costByRanges_14 : decode prog_1_method_19_code 14 = .ok (.invokevirtual 170, 3) := by decide +kernel
theorem d_MessageCoder_costByRanges_17 : decode prog_1_method_19_code 17 = .ok (.ireturn, 1) := by decide +kernel
set_option maxHeartbeats 4000000 in
set_option maxRecDepth 20000 in
theorem c_MessageCoder_costByRanges {P : xP} {F : xF} {z : Nat} {b : Nat} {cm : cmT} {M : mcS} (hM : xMC F (cm) (b) (M))  : xM P xy_MessageCoder_costByRanges [.ref b] F (z) 0 0 (fun r9 F9 z9 => r9 = some (.int (nI (hSum M.1.1))) ∧ z9 = z ∧ xMC F9 (cm) (b) (M) ∧ (∀ a9 : Nat, (a9 < b ∨ b + 566 ≤ a9) → F9 a9 = F a9)) := by
  refine xM_i .int rfl (Nat.le_of_ble_eq_true rfl) (L0 := [some (.ref b)]) rfl rfl fun Θ hC hret => ?_
  have hag : ∀ a9 : Nat, (a9 < b ∨ b + 566 ≤ a9) → F a9 = F a9 := fun a9 _ => rfl
  obtain ⟨A, S, past, ⟨pn, psg⟩, ⟨lnn, lsg⟩, sv, pp, un, ep, fc⟩ := M
  obtain ⟨b0, hs, hv, ⟨pf, hpa, hpf⟩, ⟨cc, pa, f1, f2, hf, K, p0, hK⟩, hin, hli, ⟨nb, fb9, hbt⟩, hrg, ⟨tn, tsg, htr⟩, ⟨cr, hcr⟩, hps⟩ := id hM
  obtain ⟨w, ⟨dn, ds⟩, ⟨k, nx, ms⟩, ⟨fk, fb, ftn, fts, fw⟩, ⟨rn, rs⟩, c1, c2, c3, c4⟩ := A
  obtain ⟨s0, h1, h2, ⟨p, m, h3, hms⟩, h4, h5⟩ := id hs
  have hms : ∀ i, i < k → m i = ms i := hms
  have b0 : F (b) = some (.inl (9, [.ref (b + 1), .ref (b + 50), .ref (b + 99), .ref (b + 100), .ref (b + 107), .ref (b + 109), .ref (b + 111), .ref (b + 122), .ref (b + 124), .int (nI (sv)), .int (nI (pp)), .int (nI (un)), .int ep, .int fc])) := b0
  have hv : xSt F (b + 50) (S) := hv
  have hpa : F (b + 99) = some (.inr (4, 9, pf)) := hpa
  have p0 : F (b + 100) = some (.inl (4, [.ref (b + 101), .ref (b + 103), .ref (b + 104), .ref (b + 105), .ref (b + 106), .int (nI (K.1)), .int (nI (cc)), .int (nI (pa)), .int (nI (f1)), .int (nI (f2)), .int (nI (hf))])) := p0
  have hK : xPk F (b + 100) (cm.2.1) (K) := hK
  have hin : xTx F (b + 101) (60) (pn) (psg) := hin
  have hli : xTx F (b + 107) (32) (lnn) (lsg) := hli
  have hbt : xBt F (b + 109) (nb) (fb9) := hbt
  have hrg : xRg F (b + 111) := hrg
  have htr : xTx F (b + 122) (16) (tn) (tsg) := htr
  have hcr : F (b + 124) = some (.inr (0, 17, fun b9 => .int (nI (cr b9)))) := hcr
  have hps : xPs F (b) (past) := hps
  have s0 : F (b + 1) = some (.inl (7, [.ref (b + 2), .ref (b + 9), .ref (b + 11), .ref (b + 37), .ref (b + 48), .int (nI (c1)), .int (nI (c2)), .int (nI (c3)), .int (nI (c4))])) := s0
  have h1 : xCd F (b + 2) (w) ((hLen w)) ((hVal (hLen w))) ((hOrd (hLen w))) ((hSum w)) := h1
  have h2 : xTx F (b + 9) (16) (dn) (ds) := h2
  have h3 : xQp F (b + 11) (k) (nx) (p) (m) := h3
  have h4 : xFr F (b + 37) (fk) (fb) (ftn) (fts) (fw) := h4
  have h5 : xTx F (b + 48) (16) (rn) (rs) := h5
  have hk8 : k ≤ 8 := h3.2.1.1
  obtain ⟨g0, ⟨ga, g1, gk1⟩, ⟨gb, g2, gk2⟩, ⟨gc, g3, gk3⟩, ⟨gd, g4, gk4⟩, ⟨g5x, ge, g5, gk5⟩, ⟨g6x, gf, g6, gk6⟩, gbd, gjs⟩ := id h1
  refine x_aload_n hC d_MessageCoder_costByRanges_0 rfl rfl ?_
  refine x_getf hC kf_MessageCoder_49 b0 rfl d_MessageCoder_costByRanges_1 ?_
  refine x_aload_n hC d_MessageCoder_costByRanges_4 rfl rfl ?_
  refine x_getf hC kf_MessageCoder_12 b0 rfl d_MessageCoder_costByRanges_5 ?_
  refine x_getf hC kf_MessageCoder_136 s0 rfl d_MessageCoder_costByRanges_8 ?_
  refine x_getf hC kf_MessageCoder_140 g0 rfl d_MessageCoder_costByRanges_11 ?_
  refine x_callV hC kv_MessageCoder_170 (c_Ranges_leastSum (hg := hrg) (hw := g1) (hw9 := fun j9 hj9 => by rw [gk1 j9 hj9]; exact (gbd j9 hj9).1) (hd := by omega)) hrg.1 rfl rfl (by decide) rfl rfl rfl (Nat.le_of_ble_eq_true rfl) (by decide) d_MessageCoder_costByRanges_14 (fun r9 F9 z9 hp9 => ?_)
  obtain ⟨sv1_14, l1_14, rfl, h9c, j0, j1, pk1_14, pk2_14, pk3_14, hag9⟩ := hp9
  rw [h9c]
  clear h9c z9
  generalize F9 = F1 at *
  have b0 : F1 (b) = some (.inl (9, [.ref (b + 1), .ref (b + 50), .ref (b + 99), .ref (b + 100), .ref (b + 107), .ref (b + 109), .ref (b + 111), .ref (b + 122), .ref (b + 124), .int (nI (sv)), .int (nI (pp)), .int (nI (un)), .int ep, .int fc])) := (hag9 _ (by omega)).trans b0
  have hv : xSt F1 (b + 50) (S) := xSt_fr hv (fun a9 q1 q2 => hag9 a9 (by omega))
  have hpa : F1 (b + 99) = some (.inr (4, 9, pf)) := (hag9 _ (by omega)).trans hpa
  have p0 : F1 (b + 100) = some (.inl (4, [.ref (b + 101), .ref (b + 103), .ref (b + 104), .ref (b + 105), .ref (b + 106), .int (nI (K.1)), .int (nI (cc)), .int (nI (pa)), .int (nI (f1)), .int (nI (f2)), .int (nI (hf))])) := (hag9 _ (by omega)).trans p0
  have hK : xPk F1 (b + 100) (cm.2.1) (K) := xPk_fr hK (fun a9 q1 q2 => hag9 a9 (by omega))
  have hin : xTx F1 (b + 101) (60) (pn) (psg) := xTx_fr hin (fun a9 q1 q2 => hag9 a9 (by omega))
  have hli : xTx F1 (b + 107) (32) (lnn) (lsg) := xTx_fr hli (fun a9 q1 q2 => hag9 a9 (by omega))
  have hbt : xBt F1 (b + 109) (nb) (fb9) := xBt_fr hbt (fun a9 q1 q2 => hag9 a9 (by omega))
  have htr : xTx F1 (b + 122) (16) (tn) (tsg) := xTx_fr htr (fun a9 q1 q2 => hag9 a9 (by omega))
  have hcr : F1 (b + 124) = some (.inr (0, 17, fun b9 => .int (nI (cr b9)))) := (hag9 _ (by omega)).trans hcr
  have hps : xPs F1 (b) (past) := xPs_fr hps (fun a9 q1 q2 => hag9 a9 (by omega))
  have s0 : F1 (b + 1) = some (.inl (7, [.ref (b + 2), .ref (b + 9), .ref (b + 11), .ref (b + 37), .ref (b + 48), .int (nI (c1)), .int (nI (c2)), .int (nI (c3)), .int (nI (c4))])) := (hag9 _ (by omega)).trans s0
  have h1 : xCd F1 (b + 2) (w) ((hLen w)) ((hVal (hLen w))) ((hOrd (hLen w))) ((hSum w)) := xCd_fr h1 (fun a9 q1 q2 => hag9 a9 (by omega))
  have h2 : xTx F1 (b + 9) (16) (dn) (ds) := xTx_fr h2 (fun a9 q1 q2 => hag9 a9 (by omega))
  have h3 : xQp F1 (b + 11) (k) (nx) (p) (m) := xQp_fr h3 (fun a9 q1 q2 => hag9 a9 (by omega))
  have h4 : xFr F1 (b + 37) (fk) (fb) (ftn) (fts) (fw) := xFr_fr h4 (fun a9 q1 q2 => hag9 a9 (by omega))
  have h5 : xTx F1 (b + 48) (16) (rn) (rs) := xTx_fr h5 (fun a9 q1 q2 => hag9 a9 (by omega))
  have g0 : F1 (b + 2) = some (.inl (1, [.ref (b + 3), .ref (b + 4), .ref (b + 5), .ref (b + 6), .ref (b + 7), .ref (b + 8), .int (nI (hSum w))])) := (hag9 _ (by omega)).trans g0
  have g2 : F1 (b + 4) = some (.inr (0, 8, fun b9 => .int (nI (gb b9)))) := (hag9 _ (by omega)).trans g2
  have g3 : F1 (b + 5) = some (.inr (0, 8, fun b9 => .int (nI (gc b9)))) := (hag9 _ (by omega)).trans g3
  have g4 : F1 (b + 6) = some (.inr (0, 8, fun b9 => .int (nI (gd b9)))) := (hag9 _ (by omega)).trans g4
  have g5 : F1 (b + 7) = some (.inr (0, 8, fun b9 => .int (nI (ge b9)))) := (hag9 _ (by omega)).trans g5
  have g6 : F1 (b + 8) = some (.inr (0, 8, fun b9 => .int (nI (gf b9)))) := (hag9 _ (by omega)).trans g6
  have hrg : xRg F1 ((b + 111)) := j0
  have g1 : F1 (b + 3) = some (.inr (0, 8, fun b9 => .int (nI (ga b9)))) := j1
  have hag : ∀ a9 : Nat, (a9 < b ∨ b + 566 ≤ a9) → F1 a9 = F a9 := fun a9 q0 => (hag9 a9 (by omega)).trans (hag a9 q0)
  have hg_14 := hag9
  clear hag9
  have hco : l1_14 0 7 = hSum w := rg_huff (srt_ext pk1_14 gk1) (fun j9 hj9 => (gbd j9 hj9).1) pk2_14 pk3_14
  exact hret _ _ _ _ _ _ _ d_MessageCoder_costByRanges_17 (by decide) (by decide) rfl (⟨congrArg (fun q => some (Value.int (nI q))) (hco), rfl, ⟨b0, ⟨s0, h1, h2, ⟨p, m, h3, hms⟩, h4, h5⟩, hv, ⟨pf, hpa, hpf⟩, ⟨_, _, _, _, _, _, p0, hK⟩, hin, hli, ⟨_, _, hbt⟩, hrg, ⟨_, _, htr⟩, ⟨_, hcr⟩, hps⟩, hag⟩)

theorem d_MessageCoder_checksumsAgree_0 : decode prog_1_method_69_code 0 = .ok (.iconst 0, 1) := by decide +kernel
theorem d_MessageCoder_checksumsAgree_1 : decode prog_1_method_69_code 1 = .ok (.istore_n 1, 1) := by decide +kernel
theorem d_MessageCoder_checksumsAgree_2 : decode prog_1_method_69_code 2 = .ok (.iload_n 1, 1) := by decide +kernel
theorem d_MessageCoder_checksumsAgree_3 : decode prog_1_method_69_code 3 = .ok (.aload_n 0, 1) := by decide +kernel
theorem d_MessageCoder_checksumsAgree_4 : decode prog_1_method_69_code 4 = .ok (.getfield 12, 3) := by decide +kernel
theorem d_MessageCoder_checksumsAgree_7 : decode prog_1_method_69_code 7 = .ok (.getfield 198, 3) := by decide +kernel
theorem d_MessageCoder_checksumsAgree_10 : decode prog_1_method_69_code 10 = .ok (.getfield 202, 3) := by decide +kernel
theorem d_MessageCoder_checksumsAgree_13 : decode prog_1_method_69_code 13 = .ok (.if_icmp .ge 57, 3) := by decide +kernel
theorem d_MessageCoder_checksumsAgree_16 : decode prog_1_method_69_code 16 = .ok (.aload_n 0, 1) := by decide +kernel
theorem d_MessageCoder_checksumsAgree_17 : decode prog_1_method_69_code 17 = .ok (.getfield 42, 3) := by decide +kernel
theorem d_MessageCoder_checksumsAgree_20 : decode prog_1_method_69_code 20 = .ok (.aload_n 0, 1) := by decide +kernel
theorem d_MessageCoder_checksumsAgree_21 : decode prog_1_method_69_code 21 = .ok (.getfield 12, 3) := by decide +kernel
theorem d_MessageCoder_checksumsAgree_24 : decode prog_1_method_69_code 24 = .ok (.getfield 198, 3) := by decide +kernel
theorem d_MessageCoder_checksumsAgree_27 : decode prog_1_method_69_code 27 = .ok (.getfield 400, 3) := by decide +kernel
theorem d_MessageCoder_checksumsAgree_30 : decode prog_1_method_69_code 30 = .ok (.iload_n 1, 1) := by decide +kernel
theorem d_MessageCoder_checksumsAgree_31 : decode prog_1_method_69_code 31 = .ok (.aaload, 1) := by decide +kernel
theorem d_MessageCoder_checksumsAgree_32 : decode prog_1_method_69_code 32 = .ok (.getfield 222, 3) := by decide +kernel
theorem d_MessageCoder_checksumsAgree_35 : decode prog_1_method_69_code 35 = .ok (.aload_n 0, 1) := by decide +kernel
theorem d_MessageCoder_checksumsAgree_36 : decode prog_1_method_69_code 36 = .ok (.getfield 12, 3) := by decide +kernel
theorem d_MessageCoder_checksumsAgree_39 : decode prog_1_method_69_code 39 = .ok (.getfield 136, 3) := by decide +kernel
theorem d_MessageCoder_checksumsAgree_42 : decode prog_1_method_69_code 42 = .ok (.invokevirtual 232, 3) := by decide +kernel
theorem d_MessageCoder_checksumsAgree_45 : decode prog_1_method_69_code 45 = .ok (.aload_n 0, 1) := by decide +kernel
theorem d_MessageCoder_checksumsAgree_46 : decode prog_1_method_69_code 46 = .ok (.getfield 42, 3) := by decide +kernel
theorem d_MessageCoder_checksumsAgree_49 : decode prog_1_method_69_code 49 = .ok (.invokevirtual 240, 3) := by decide +kernel
theorem d_MessageCoder_checksumsAgree_52 : decode prog_1_method_69_code 52 = .ok (.aload_n 0, 1) := by decide +kernel
theorem d_MessageCoder_checksumsAgree_53 : decode prog_1_method_69_code 53 = .ok (.getfield 42, 3) := by decide +kernel
theorem d_MessageCoder_checksumsAgree_56 : decode prog_1_method_69_code 56 = .ok (.invokevirtual 243, 3) := by decide +kernel
theorem d_MessageCoder_checksumsAgree_59 : decode prog_1_method_69_code 59 = .ok (.if_icmp .eq 5, 3) := by decide +kernel
theorem d_MessageCoder_checksumsAgree_62 : decode prog_1_method_69_code 62 = .ok (.iconst 0, 1) := by decide +kernel
theorem d_MessageCoder_checksumsAgree_63 : decode prog_1_method_69_code 63 = .ok (.ireturn, 1) := by decide +kernel
theorem d_MessageCoder_checksumsAgree_64 : decode prog_1_method_69_code 64 = .ok (.iinc 1 1, 3) := by decide +kernel
theorem d_MessageCoder_checksumsAgree_67 : decode prog_1_method_69_code 67 = .ok (.goto (-65), 3) := by decide +kernel
theorem d_MessageCoder_checksumsAgree_70 : decode prog_1_method_69_code 70 = .ok (.iconst 1, 1) := by decide +kernel
theorem d_MessageCoder_checksumsAgree_71 : decode prog_1_method_69_code 71 = .ok (.ireturn, 1) := by decide +kernel
set_option maxHeartbeats 4000000 in
set_option maxRecDepth 20000 in
theorem c_MessageCoder_checksumsAgree {P : xP} {F : xF} {z : Nat} {b : Nat} {cm : cmT} {M : mcS} {rt : Nat} (hM : xMC F (cm) (b) (M)) (hSR : xSR P rt) : xM P xy_MessageCoder_checksumsAgree [.ref b] F (z) 0 0 (fun r9 F9 z9 => r9 = some (.int (nI 1)) ∧ z9 = z ∧ xMC F9 (cm) (b) (M) ∧ (∀ a9 : Nat, (a9 < b ∨ b + 566 ≤ a9) → F9 a9 = F a9)) := by
  refine xM_i .boolean rfl (Nat.le_of_ble_eq_true rfl) (L0 := [some (.ref b), none]) rfl rfl fun Θ hC hret => ?_
  have hag : ∀ a9 : Nat, (a9 < b ∨ b + 566 ≤ a9) → F a9 = F a9 := fun a9 _ => rfl
  obtain ⟨A, S, past, ⟨pn, psg⟩, ⟨lnn, lsg⟩, sv, pp, un, ep, fc⟩ := M
  obtain ⟨b0, hs, hv, ⟨pf, hpa, hpf⟩, ⟨cc, pa, f1, f2, hf, K, p0, hK⟩, hin, hli, ⟨nb, fb9, hbt⟩, hrg, ⟨tn, tsg, htr⟩, ⟨cr, hcr⟩, hps⟩ := id hM
  obtain ⟨w, ⟨dn, ds⟩, ⟨k, nx, ms⟩, ⟨fk, fb, ftn, fts, fw⟩, ⟨rn, rs⟩, c1, c2, c3, c4⟩ := A
  obtain ⟨s0, h1, h2, ⟨p, m, h3, hms⟩, h4, h5⟩ := id hs
  have hms : ∀ i, i < k → m i = ms i := hms
  have b0 : F (b) = some (.inl (9, [.ref (b + 1), .ref (b + 50), .ref (b + 99), .ref (b + 100), .ref (b + 107), .ref (b + 109), .ref (b + 111), .ref (b + 122), .ref (b + 124), .int (nI (sv)), .int (nI (pp)), .int (nI (un)), .int ep, .int fc])) := b0
  have hv : xSt F (b + 50) (S) := hv
  have hpa : F (b + 99) = some (.inr (4, 9, pf)) := hpa
  have p0 : F (b + 100) = some (.inl (4, [.ref (b + 101), .ref (b + 103), .ref (b + 104), .ref (b + 105), .ref (b + 106), .int (nI (K.1)), .int (nI (cc)), .int (nI (pa)), .int (nI (f1)), .int (nI (f2)), .int (nI (hf))])) := p0
  have hK : xPk F (b + 100) (cm.2.1) (K) := hK
  have hin : xTx F (b + 101) (60) (pn) (psg) := hin
  have hli : xTx F (b + 107) (32) (lnn) (lsg) := hli
  have hbt : xBt F (b + 109) (nb) (fb9) := hbt
  have hrg : xRg F (b + 111) := hrg
  have htr : xTx F (b + 122) (16) (tn) (tsg) := htr
  have hcr : F (b + 124) = some (.inr (0, 17, fun b9 => .int (nI (cr b9)))) := hcr
  have hps : xPs F (b) (past) := hps
  have s0 : F (b + 1) = some (.inl (7, [.ref (b + 2), .ref (b + 9), .ref (b + 11), .ref (b + 37), .ref (b + 48), .int (nI (c1)), .int (nI (c2)), .int (nI (c3)), .int (nI (c4))])) := s0
  have h1 : xCd F (b + 2) (w) ((hLen w)) ((hVal (hLen w))) ((hOrd (hLen w))) ((hSum w)) := h1
  have h2 : xTx F (b + 9) (16) (dn) (ds) := h2
  have h3 : xQp F (b + 11) (k) (nx) (p) (m) := h3
  have h4 : xFr F (b + 37) (fk) (fb) (ftn) (fts) (fw) := h4
  have h5 : xTx F (b + 48) (16) (rn) (rs) := h5
  have hk8 : k ≤ 8 := h3.2.1.1
  obtain ⟨q0, qk, ⟨qf, q1, qh⟩, qm⟩ := id h3
  have q0 : F (b + 11) = some (.inl (5, [.ref (b + 12), .int (nI (k)), .int (nI (nx))])) := q0
  have q1 : F (b + 12) = some (.inr (5, 8, qf)) := q1
  have qm : xQm F (b + 11) (p) (m) := qm
  refine x_iconst hC d_MessageCoder_checksumsAgree_0 (v := nI 0) (by decide) ?_
  refine x_istore_n hC d_MessageCoder_checksumsAgree_1 rfl (Nat.le_of_ble_eq_true rfl) (L1 := [some (.ref b), some (.int (nI 0))]) rfl ?_
  have loop_2 : ∀ (m9 : Nat) (Fh2 : xF) (i : Nat) (nb1 : Nat) (fb1 : Nat → Nat), (Fh2 (b) = some (.inl (9, [.ref (b + 1), .ref (b + 50), .ref (b + 99), .ref (b + 100), .ref (b + 107), .ref (b + 109), .ref (b + 111), .ref (b + 122), .ref (b + 124), .int (nI (sv)), .int (nI (pp)), .int (nI (un)), .int ep, .int fc]))) → (xSt Fh2 (b + 50) (S)) → (Fh2 (b + 99) = some (.inr (4, 9, pf))) → (Fh2 (b + 100) = some (.inl (4, [.ref (b + 101), .ref (b + 103), .ref (b + 104), .ref (b + 105), .ref (b + 106), .int (nI (K.1)), .int (nI (cc)), .int (nI (pa)), .int (nI (f1)), .int (nI (f2)), .int (nI (hf))]))) → (xPk Fh2 (b + 100) (cm.2.1) (K)) → (xTx Fh2 (b + 101) (60) (pn) (psg)) → (xTx Fh2 (b + 107) (32) (lnn) (lsg)) → (xBt Fh2 (b + 109) (nb1) (fb1)) → (xRg Fh2 (b + 111)) → (xTx Fh2 (b + 122) (16) (tn) (tsg)) → (Fh2 (b + 124) = some (.inr (0, 17, fun b9 => .int (nI (cr b9))))) → (xPs Fh2 (b) (past)) → (Fh2 (b + 1) = some (.inl (7, [.ref (b + 2), .ref (b + 9), .ref (b + 11), .ref (b + 37), .ref (b + 48), .int (nI (c1)), .int (nI (c2)), .int (nI (c3)), .int (nI (c4))]))) → (xCd Fh2 (b + 2) (w) ((hLen w)) ((hVal (hLen w))) ((hOrd (hLen w))) ((hSum w))) → (xTx Fh2 (b + 9) (16) (dn) (ds)) → (xQp Fh2 (b + 11) (k) (nx) (p) (m)) → (xFr Fh2 (b + 37) (fk) (fb) (ftn) (fts) (fw)) → (xTx Fh2 (b + 48) (16) (rn) (rs)) → (Fh2 (b + 11) = some (.inl (5, [.ref (b + 12), .int (nI (k)), .int (nI (nx))]))) → (Fh2 (b + 12) = some (.inr (5, 8, qf))) → (xQm Fh2 (b + 11) (p) (m)) → (∀ a9 : Nat, (a9 < b ∨ b + 566 ≤ a9) → Fh2 a9 = F a9) → (i ≤ k) → (k - i < m9) → xX P Θ 2 [some (.ref b), some (.int (nI (i)))] [] Fh2 (z) 0 0 := by
    intro m9
    induction m9 with
    | zero => intros; omega
    | succ m9 ih_2 =>
      intro Fh2 i nb1 fb1 b0 hv hpa p0 hK hin hli hbt hrg htr hcr hps s0 h1 h2 h3 h4 h5 q0 q1 qm hag hi hm_2
      refine x_iload_n hC d_MessageCoder_checksumsAgree_2 rfl rfl ?_
      refine x_aload_n hC d_MessageCoder_checksumsAgree_3 rfl rfl ?_
      refine x_getf hC kf_MessageCoder_12 b0 rfl d_MessageCoder_checksumsAgree_4 ?_
      refine x_getf hC kf_MessageCoder_198 s0 rfl d_MessageCoder_checksumsAgree_7 ?_
      refine x_getf hC kf_MessageCoder_202 q0 rfl d_MessageCoder_checksumsAgree_10 ?_
      refine x_icmpN_ge hC d_MessageCoder_checksumsAgree_13 (tgt := 70) (by decide) (by omega) (by omega) (fun c_13 => ?_) (fun c_13 => ?_)
      · skip
        refine x_iconst hC d_MessageCoder_checksumsAgree_70 (v := nI 1) (by decide) ?_
        exact hret _ _ _ _ _ _ _ d_MessageCoder_checksumsAgree_71 (by decide) (by decide) rfl (⟨rfl, rfl, ⟨b0, ⟨s0, h1, h2, ⟨p, m, h3, hms⟩, h4, h5⟩, hv, ⟨pf, hpa, hpf⟩, ⟨_, _, _, _, _, _, p0, hK⟩, hin, hli, ⟨_, _, hbt⟩, hrg, ⟨_, _, htr⟩, ⟨_, hcr⟩, hps⟩, hag⟩)
      · skip
        refine x_aload_n hC d_MessageCoder_checksumsAgree_16 rfl rfl ?_
        refine x_getf hC kf_MessageCoder_42 b0 rfl d_MessageCoder_checksumsAgree_17 ?_
        refine x_aload_n hC d_MessageCoder_checksumsAgree_20 rfl rfl ?_
        refine x_getf hC kf_MessageCoder_12 b0 rfl d_MessageCoder_checksumsAgree_21 ?_
        refine x_getf hC kf_MessageCoder_198 s0 rfl d_MessageCoder_checksumsAgree_24 ?_
        refine x_getf hC kf_MessageCoder_400 q0 rfl d_MessageCoder_checksumsAgree_27 ?_
        refine x_iload_n hC d_MessageCoder_checksumsAgree_30 rfl rfl ?_
        refine x_aald hC q1 (by decide) rfl (j := i) ⟨rfl, by omega, by omega⟩ (x := .ref (b + 13 + 3 * p i)) (qh i (by omega)) rfl d_MessageCoder_checksumsAgree_31 ?_
        have hm_i : xMs Fh2 (b + 13 + 3 * p i) ((m i).1) ((m i).2.1) ((m i).2.2.1) ((m i).2.2.2) := qm.2.2 i (by omega)
        have hl_i : (m i).2.2.1 ≤ 16 := hm_i.2.1.2.1.1
        have hp_i := qm.1 i (by omega)
        refine x_getf hC kf_MessageCoder_222 hm_i.1 rfl d_MessageCoder_checksumsAgree_32 ?_
        refine x_aload_n hC d_MessageCoder_checksumsAgree_35 rfl rfl ?_
        refine x_getf hC kf_MessageCoder_12 b0 rfl d_MessageCoder_checksumsAgree_36 ?_
        refine x_getf hC kf_MessageCoder_136 s0 rfl d_MessageCoder_checksumsAgree_39 ?_
        refine x_callV hC kv_MessageCoder_232 (c_Bits_spell (hb := hbt) (ht := hm_i.2.1) (hc := h1) (hn16 := by omega) (hd1 := by omega) (hd2 := by omega)) hbt.1 rfl rfl (by decide) rfl rfl rfl (Nat.le_of_ble_eq_true rfl) (by decide) d_MessageCoder_checksumsAgree_42 (fun r9 F9 z9 hp9 => ?_)
        obtain ⟨rfl, h9c, j0, j1, j2, hag9⟩ := hp9
        rw [h9c]
        clear h9c z9
        generalize F9 = F1 at *
        have b0 : F1 (b) = some (.inl (9, [.ref (b + 1), .ref (b + 50), .ref (b + 99), .ref (b + 100), .ref (b + 107), .ref (b + 109), .ref (b + 111), .ref (b + 122), .ref (b + 124), .int (nI (sv)), .int (nI (pp)), .int (nI (un)), .int ep, .int fc])) := (hag9 _ (by omega)).trans b0
        have hv : xSt F1 (b + 50) (S) := xSt_fr hv (fun a9 q1 q2 => hag9 a9 (by omega))
        have hpa : F1 (b + 99) = some (.inr (4, 9, pf)) := (hag9 _ (by omega)).trans hpa
        have p0 : F1 (b + 100) = some (.inl (4, [.ref (b + 101), .ref (b + 103), .ref (b + 104), .ref (b + 105), .ref (b + 106), .int (nI (K.1)), .int (nI (cc)), .int (nI (pa)), .int (nI (f1)), .int (nI (f2)), .int (nI (hf))])) := (hag9 _ (by omega)).trans p0
        have hK : xPk F1 (b + 100) (cm.2.1) (K) := xPk_fr hK (fun a9 q1 q2 => hag9 a9 (by omega))
        have hin : xTx F1 (b + 101) (60) (pn) (psg) := xTx_fr hin (fun a9 q1 q2 => hag9 a9 (by omega))
        have hli : xTx F1 (b + 107) (32) (lnn) (lsg) := xTx_fr hli (fun a9 q1 q2 => hag9 a9 (by omega))
        have hrg : xRg F1 (b + 111) := xRg_fr hrg (fun a9 q1 q2 => hag9 a9 (by omega))
        have htr : xTx F1 (b + 122) (16) (tn) (tsg) := xTx_fr htr (fun a9 q1 q2 => hag9 a9 (by omega))
        have hcr : F1 (b + 124) = some (.inr (0, 17, fun b9 => .int (nI (cr b9)))) := (hag9 _ (by omega)).trans hcr
        have hps : xPs F1 (b) (past) := xPs_fr hps (fun a9 q1 q2 => hag9 a9 (by omega))
        have s0 : F1 (b + 1) = some (.inl (7, [.ref (b + 2), .ref (b + 9), .ref (b + 11), .ref (b + 37), .ref (b + 48), .int (nI (c1)), .int (nI (c2)), .int (nI (c3)), .int (nI (c4))])) := (hag9 _ (by omega)).trans s0
        have h2 : xTx F1 (b + 9) (16) (dn) (ds) := xTx_fr h2 (fun a9 q1 q2 => hag9 a9 (by omega))
        have h3 : xQp F1 (b + 11) (k) (nx) (p) (m) := xQp_fr h3 (fun a9 q1 q2 => hag9 a9 (by omega))
        have h4 : xFr F1 (b + 37) (fk) (fb) (ftn) (fts) (fw) := xFr_fr h4 (fun a9 q1 q2 => hag9 a9 (by omega))
        have h5 : xTx F1 (b + 48) (16) (rn) (rs) := xTx_fr h5 (fun a9 q1 q2 => hag9 a9 (by omega))
        have q0 : F1 (b + 11) = some (.inl (5, [.ref (b + 12), .int (nI (k)), .int (nI (nx))])) := (hag9 _ (by omega)).trans q0
        have q1 : F1 (b + 12) = some (.inr (5, 8, qf)) := (hag9 _ (by omega)).trans q1
        have qm : xQm F1 (b + 11) (p) (m) := xQm_fr qm (fun a9 q1 q2 => hag9 a9 (by omega))
        have hm_i : xMs F1 (b + 13 + 3 * p i) ((m i).1) ((m i).2.1) ((m i).2.2.1) ((m i).2.2.2) := xMs_fr hm_i (fun a9 q1 q2 => hag9 a9 (by omega))
        have hbt : xBt F1 ((b + 109)) ((bitsN (hLen w) ((m i).2.2.2) ((m i).2.2.1))) ((splB (hLen w) (hVal (hLen w)) ((m i).2.2.2) ((m i).2.2.1))) := j0
        have hnht_42 : xTx F1 ((b + 13 + 3 * p i + 1)) (16) (((m i).2.2.1)) (((m i).2.2.2)) := j1
        have h1 : xCd F1 ((b + 2)) (w) ((hLen w)) ((hVal (hLen w))) ((hOrd (hLen w))) ((hSum w)) := j2
        have hag : ∀ a9 : Nat, (a9 < b ∨ b + 566 ≤ a9) → F1 a9 = F a9 := fun a9 q0 => (hag9 a9 (by omega)).trans (hag a9 q0)
        have hg_42 := hag9
        clear hag9
        refine x_aload_n hC d_MessageCoder_checksumsAgree_45 rfl rfl ?_
        refine x_getf hC kf_MessageCoder_42 b0 rfl d_MessageCoder_checksumsAgree_46 ?_
        refine x_callV hC kv_MessageCoder_240 (c_Bits_remainder (hb := hbt)) hbt.1 rfl rfl (by decide) rfl rfl rfl (Nat.le_of_ble_eq_true rfl) (by decide) d_MessageCoder_checksumsAgree_49 (fun r9 F9 z9 hp9 => ?_)
        obtain ⟨rfl, h9b, h9c⟩ := hp9
        rw [h9b, h9c]
        clear h9b h9c F9 z9
        refine x_aload_n hC d_MessageCoder_checksumsAgree_52 rfl rfl ?_
        refine x_getf hC kf_MessageCoder_42 b0 rfl d_MessageCoder_checksumsAgree_53 ?_
        refine x_callV hC kv_MessageCoder_243 (c_Bits_remainderByTable (hb := hbt) (hSR := hSR)) hbt.1 rfl rfl (by decide) rfl rfl rfl (Nat.le_of_ble_eq_true rfl) (by decide) d_MessageCoder_checksumsAgree_56 (fun r9 F9 z9 hp9 => ?_)
        obtain ⟨rfl, h9b, h9c⟩ := hp9
        rw [h9b, h9c]
        clear h9b h9c F9 z9
        have hcr9 := crcB_le hbt.2.2.1 (bitsN (hLen w) (m i).2.2.2 (m i).2.2.1 + 4)
        refine x_icmpN_eq hC d_MessageCoder_checksumsAgree_59 (tgt := 64) (by decide) (by omega) (by omega) (fun c_59 => ?_) (fun c_59 => ?_)
        · skip
          refine x_iinc hC d_MessageCoder_checksumsAgree_64 rfl (v := (nI (i + 1))) (x_incN 1) (Nat.le_of_ble_eq_true rfl) (L1 := [some (.ref b), some (.int (nI (i + 1)))]) rfl ?_
          refine x_goto hC d_MessageCoder_checksumsAgree_67 (tgt := 2) (by decide) ?_
          exact ih_2 F1 (i + 1) ((bitsN (hLen w) ((m i).2.2.2) ((m i).2.2.1))) ((splB (hLen w) (hVal (hLen w)) ((m i).2.2.2) ((m i).2.2.1))) b0 hv hpa p0 hK hin hli hbt hrg htr hcr hps s0 h1 h2 h3 h4 h5 q0 q1 qm hag (by omega) (by omega)
        · skip
          exact absurd rfl c_59
  exact loop_2 (k - 0 + 1) F (0) (nb) (fb9) b0 hv hpa p0 hK hin hli hbt hrg htr hcr hps s0 h1 h2 h3 h4 h5 q0 q1 qm hag (by omega) (by omega)

theorem d_MessageCoder_isConsistent_0 : decode prog_1_method_52_code 0 = .ok (.aload_n 0, 1) := by decide +kernel
theorem d_MessageCoder_isConsistent_1 : decode prog_1_method_52_code 1 = .ok (.invokevirtual 317, 3) := by decide +kernel
theorem d_MessageCoder_isConsistent_4 : decode prog_1_method_52_code 4 = .ok (.aload_n 0, 1) := by decide +kernel
theorem d_MessageCoder_isConsistent_5 : decode prog_1_method_52_code 5 = .ok (.invokevirtual 320, 3) := by decide +kernel
theorem d_MessageCoder_isConsistent_8 : decode prog_1_method_52_code 8 = .ok (.if_icmp .ne 34, 3) := by decide +kernel
theorem d_MessageCoder_isConsistent_11 : decode prog_1_method_52_code 11 = .ok (.aload_n 0, 1) := by decide +kernel
theorem d_MessageCoder_isConsistent_12 : decode prog_1_method_52_code 12 = .ok (.invokevirtual 323, 3) := by decide +kernel
theorem d_MessageCoder_isConsistent_15 : decode prog_1_method_52_code 15 = .ok (.ifCond .eq 27, 3) := by decide +kernel
theorem d_MessageCoder_isConsistent_18 : decode prog_1_method_52_code 18 = .ok (.aload_n 0, 1) := by decide +kernel
theorem d_MessageCoder_isConsistent_19 : decode prog_1_method_52_code 19 = .ok (.invokevirtual 326, 3) := by decide +kernel
theorem d_MessageCoder_isConsistent_22 : decode prog_1_method_52_code 22 = .ok (.ifCond .eq 20, 3) := by decide +kernel
theorem d_MessageCoder_isConsistent_25 : decode prog_1_method_52_code 25 = .ok (.aload_n 0, 1) := by decide +kernel
theorem d_MessageCoder_isConsistent_26 : decode prog_1_method_52_code 26 = .ok (.getfield 12, 3) := by decide +kernel
theorem d_MessageCoder_isConsistent_29 : decode prog_1_method_52_code 29 = .ok (.getfield 254, 3) := by decide +kernel
theorem d_MessageCoder_isConsistent_32 : decode prog_1_method_52_code 32 = .ok (.invokevirtual 329, 3) := by decide +kernel
theorem d_MessageCoder_isConsistent_35 : decode prog_1_method_52_code 35 = .ok (.ifCond .eq 7, 3) := by decide +kernel
theorem d_MessageCoder_isConsistent_38 : decode prog_1_method_52_code 38 = .ok (.iconst 1, 1) := by decide +kernel
theorem d_MessageCoder_isConsistent_39 : decode prog_1_method_52_code 39 = .ok (.goto 4, 3) := by decide +kernel
theorem d_MessageCoder_isConsistent_42 : decode prog_1_method_52_code 42 = .ok (.iconst 0, 1) := by decide +kernel
theorem d_MessageCoder_isConsistent_43 : decode prog_1_method_52_code 43 = .ok (.ireturn, 1) := by decide +kernel
set_option maxHeartbeats 4000000 in
set_option maxRecDepth 20000 in
theorem c_MessageCoder_isConsistent {P : xP} {F : xF} {z : Nat} {b : Nat} {cm : cmT} {M : mcS} {rt : Nat} (hM : xMC F (cm) (b) (M)) (hSR : xSR P rt) : xM P xy_MessageCoder_isConsistent [.ref b] F (z) 0 0 (fun r9 F9 z9 => r9 = some (.int (nI 1)) ∧ z9 = z ∧ xMC F9 (cm) (b) (M) ∧ (∀ a9 : Nat, (a9 < b ∨ b + 566 ≤ a9) → F9 a9 = F a9)) := by
  refine xM_i .boolean rfl (Nat.le_of_ble_eq_true rfl) (L0 := [some (.ref b)]) rfl rfl fun Θ hC hret => ?_
  have hag : ∀ a9 : Nat, (a9 < b ∨ b + 566 ≤ a9) → F a9 = F a9 := fun a9 _ => rfl
  refine x_aload_n hC d_MessageCoder_isConsistent_0 rfl rfl ?_
  refine x_callV hC kv_MessageCoder_317 (c_MessageCoder_cost (hM := hM)) hM.1 rfl rfl (by decide) rfl rfl rfl (Nat.le_of_ble_eq_true rfl) (by decide) d_MessageCoder_isConsistent_1 (fun r9 F9 z9 hp9 => ?_)
  obtain ⟨rfl, h9b, h9c⟩ := hp9
  rw [h9b, h9c]
  clear h9b h9c F9 z9
  refine x_aload_n hC d_MessageCoder_isConsistent_4 rfl rfl ?_
  refine x_callV hC kv_MessageCoder_320 (c_MessageCoder_costByRanges (hM := hM)) hM.1 rfl rfl (by decide) rfl rfl rfl (Nat.le_of_ble_eq_true rfl) (by decide) d_MessageCoder_isConsistent_5 (fun r9 F9 z9 hp9 => ?_)
  obtain ⟨rfl, h9c, j0, hag9⟩ := hp9
  rw [h9c]
  clear h9c z9
  generalize F9 = F1 at *
  have hM : xMC F1 (cm) (b) (M) := j0
  have hag : ∀ a9 : Nat, (a9 < b ∨ b + 566 ≤ a9) → F1 a9 = F a9 := fun a9 q0 => (hag9 a9 (by omega)).trans (hag a9 q0)
  have hg_5 := hag9
  clear hag9
  have hs9 : hSum M.1.1 ≤ 5544 := hJ_sb (fun j9 hj9 => (hM.2.1.2.1.2.2.2.2.2.2.2.1 j9 hj9).1) (Nat.le_refl 7)
  refine x_icmpN_ne hC d_MessageCoder_isConsistent_8 (tgt := 42) (by decide) (by omega) (by omega) (fun c_8 => ?_) (fun c_8 => ?_)
  · skip
    exact absurd rfl c_8
  · skip
    refine x_aload_n hC d_MessageCoder_isConsistent_11 rfl rfl ?_
    refine x_callV hC kv_MessageCoder_323 (c_MessageCoder_isComplete (hM := hM)) hM.1 rfl rfl (by decide) rfl rfl rfl (Nat.le_of_ble_eq_true rfl) (by decide) d_MessageCoder_isConsistent_12 (fun r9 F9 z9 hp9 => ?_)
    obtain ⟨rfl, h9b, h9c⟩ := hp9
    rw [h9b, h9c]
    clear h9b h9c F9 z9
    refine x_ifN_eq hC d_MessageCoder_isConsistent_15 (tgt := 42) (by decide) (by omega) (fun c_15 => ?_) (fun c_15 => ?_)
    · skip
      exact absurd c_15 (by omega)
    · skip
      refine x_aload_n hC d_MessageCoder_isConsistent_18 rfl rfl ?_
      refine x_callV hC kv_MessageCoder_326 (c_MessageCoder_checksumsAgree (hM := hM) (hSR := hSR)) hM.1 rfl rfl (by decide) rfl rfl rfl (Nat.le_of_ble_eq_true rfl) (by decide) d_MessageCoder_isConsistent_19 (fun r9 F9 z9 hp9 => ?_)
      obtain ⟨rfl, h9c, j0, hag9⟩ := hp9
      rw [h9c]
      clear h9c z9
      generalize F9 = F2 at *
      have hM : xMC F2 (cm) (b) (M) := j0
      have hag : ∀ a9 : Nat, (a9 < b ∨ b + 566 ≤ a9) → F2 a9 = F a9 := fun a9 q0 => (hag9 a9 (by omega)).trans (hag a9 q0)
      have hg_19 := hag9
      clear hag9
      refine x_ifN_eq hC d_MessageCoder_isConsistent_22 (tgt := 42) (by decide) (by omega) (fun c_22 => ?_) (fun c_22 => ?_)
      · skip
        exact absurd c_22 (by omega)
      · skip
        refine x_aload_n hC d_MessageCoder_isConsistent_25 rfl rfl ?_
        refine x_getf hC kf_MessageCoder_12 hM.1 rfl d_MessageCoder_isConsistent_26 ?_
        refine x_getf hC kf_MessageCoder_254 hM.2.1.1 rfl d_MessageCoder_isConsistent_29 ?_
        refine x_callV hC kv_MessageCoder_329 (c_Frame_correctionsAgree (hr := hM.2.1.2.2.2.2.1)) hM.2.1.2.2.2.2.1.1 rfl rfl (by decide) rfl rfl rfl (Nat.le_of_ble_eq_true rfl) (by decide) d_MessageCoder_isConsistent_32 (fun r9 F9 z9 hp9 => ?_)
        obtain ⟨rfl, h9b, h9c⟩ := hp9
        rw [h9b, h9c]
        clear h9b h9c F9 z9
        refine x_ifN_eq hC d_MessageCoder_isConsistent_35 (tgt := 42) (by decide) (by omega) (fun c_35 => ?_) (fun c_35 => ?_)
        · skip
          exact absurd c_35 (by omega)
        · skip
          refine x_iconst hC d_MessageCoder_isConsistent_38 (v := nI 1) (by decide) ?_
          refine x_goto hC d_MessageCoder_isConsistent_39 (tgt := 43) (by decide) ?_
          exact hret _ _ _ _ _ _ _ d_MessageCoder_isConsistent_43 (by decide) (by decide) rfl (⟨rfl, rfl, hM, hag⟩)

