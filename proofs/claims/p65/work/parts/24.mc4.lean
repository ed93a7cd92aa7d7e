/-- a symbol's code as a line -/
def fmC (c l v : Nat) : Nat → Nat := fun j => if j = 0 then c else if j = 1 then 61 else 48 + codeB l v (j - 2)
theorem fmC_s {c l v j : Nat} (h : 2 ≤ j) : fmC c l v j = 48 + codeB l v (j - 2) := by
  unfold fmC
  rw [if_neg (by omega), if_neg (by omega)]
def setI (M : mcS) (n : Nat) (s : Nat → Nat) : mcS := (M.1, M.2.1, M.2.2.1, (n, s), M.2.2.2.2)
def undM (M : mcS) : mcS := (M.2.2.1 ((M.2.2.2.2.2.2.1 - 1) % 9), M.2.1, M.2.2.1, M.2.2.2.1, M.2.2.2.2.1, M.2.2.2.2.2.1, M.2.2.2.2.2.2.1 - 1, M.2.2.2.2.2.2.2.1 - 1, M.2.2.2.2.2.2.2.2)
def savM (M : mcS) : mcS := (M.1, M.1, M.2.2.1, M.2.2.2.1, M.2.2.2.2.1, 1, M.2.2.2.2.2.2)
def resM (M : mcS) : mcS := (M.2.1, M.2.1, M.2.2.1, M.2.2.2.1, M.2.2.2.2.1, M.2.2.2.2.2.1, M.2.2.2.2.2.2.1, 0, M.2.2.2.2.2.2.2.2)

theorem d_MessageCoder_formatCode_0 : decode prog_1_method_54_code 0 = .ok (.iload_n 1, 1) := by decide +kernel
theorem d_MessageCoder_formatCode_1 : decode prog_1_method_54_code 1 = .ok (.invokestatic 145, 3) := by decide +kernel
theorem d_MessageCoder_formatCode_4 : decode prog_1_method_54_code 4 = .ok (.istore_n 2, 1) := by decide +kernel
theorem d_MessageCoder_formatCode_5 : decode prog_1_method_54_code 5 = .ok (.aload_n 0, 1) := by decide +kernel
theorem d_MessageCoder_formatCode_6 : decode prog_1_method_54_code 6 = .ok (.getfield 12, 3) := by decide +kernel
theorem d_MessageCoder_formatCode_9 : decode prog_1_method_54_code 9 = .ok (.getfield 136, 3) := by decide +kernel
theorem d_MessageCoder_formatCode_12 : decode prog_1_method_54_code 12 = .ok (.getfield 156, 3) := by decide +kernel
theorem d_MessageCoder_formatCode_15 : decode prog_1_method_54_code 15 = .ok (.iload_n 2, 1) := by decide +kernel
theorem d_MessageCoder_formatCode_16 : decode prog_1_method_54_code 16 = .ok (.iaload, 1) := by decide +kernel
theorem d_MessageCoder_formatCode_17 : decode prog_1_method_54_code 17 = .ok (.istore_n 3, 1) := by decide +kernel
theorem d_MessageCoder_formatCode_18 : decode prog_1_method_54_code 18 = .ok (.aload_n 0, 1) := by decide +kernel
theorem d_MessageCoder_formatCode_19 : decode prog_1_method_54_code 19 = .ok (.getfield 35, 3) := by decide +kernel
theorem d_MessageCoder_formatCode_22 : decode prog_1_method_54_code 22 = .ok (.invokevirtual 332, 3) := by decide +kernel
theorem d_MessageCoder_formatCode_25 : decode prog_1_method_54_code 25 = .ok (.aload_n 0, 1) := by decide +kernel
theorem d_MessageCoder_formatCode_26 : decode prog_1_method_54_code 26 = .ok (.getfield 35, 3) := by decide +kernel
theorem d_MessageCoder_formatCode_29 : decode prog_1_method_54_code 29 = .ok (.iload_n 1, 1) := by decide +kernel
theorem d_MessageCoder_formatCode_30 : decode prog_1_method_54_code 30 = .ok (.invokevirtual 338, 3) := by decide +kernel
theorem d_MessageCoder_formatCode_33 : decode prog_1_method_54_code 33 = .ok (.pop, 1) := by decide +kernel
theorem d_MessageCoder_formatCode_34 : decode prog_1_method_54_code 34 = .ok (.aload_n 0, 1) := by decide +kernel
theorem d_MessageCoder_formatCode_35 : decode prog_1_method_54_code 35 = .ok (.getfield 35, 3) := by decide +kernel
theorem d_MessageCoder_formatCode_38 : decode prog_1_method_54_code 38 = .ok (.bipush 61, 2) := by decide +kernel
theorem d_MessageCoder_formatCode_40 : decode prog_1_method_54_code 40 = .ok (.invokevirtual 338, 3) := by decide +kernel
theorem d_MessageCoder_formatCode_43 : decode prog_1_method_54_code 43 = .ok (.pop, 1) := by decide +kernel
theorem d_MessageCoder_formatCode_44 : decode prog_1_method_54_code 44 = .ok (.aload_n 0, 1) := by decide +kernel
theorem d_MessageCoder_formatCode_45 : decode prog_1_method_54_code 45 = .ok (.getfield 12, 3) := by decide +kernel
theorem d_MessageCoder_formatCode_48 : decode prog_1_method_54_code 48 = .ok (.getfield 136, 3) := by decide +kernel
theorem d_MessageCoder_formatCode_51 : decode prog_1_method_54_code 51 = .ok (.getfield 153, 3) := by decide +kernel
theorem d_MessageCoder_formatCode_54 : decode prog_1_method_54_code 54 = .ok (.iload_n 2, 1) := by decide +kernel
theorem d_MessageCoder_formatCode_55 : decode prog_1_method_54_code 55 = .ok (.iaload, 1) := by decide +kernel
theorem d_MessageCoder_formatCode_56 : decode prog_1_method_54_code 56 = .ok (.iconst 1, 1) := by decide +kernel
theorem d_MessageCoder_formatCode_57 : decode prog_1_method_54_code 57 = .ok (.isub, 1) := by decide +kernel
theorem d_MessageCoder_formatCode_58 : decode prog_1_method_54_code 58 = .ok (.istore 4, 2) := by decide +kernel
theorem d_MessageCoder_formatCode_60 : decode prog_1_method_54_code 60 = .ok (.iload 4, 2) := by decide +kernel
theorem d_MessageCoder_formatCode_62 : decode prog_1_method_54_code 62 = .ok (.ifCond .lt 34, 3) := by decide +kernel
theorem d_MessageCoder_formatCode_65 : decode prog_1_method_54_code 65 = .ok (.aload_n 0, 1) := by decide +kernel
theorem d_MessageCoder_formatCode_66 : decode prog_1_method_54_code 66 = .ok (.getfield 35, 3) := by decide +kernel
theorem d_MessageCoder_formatCode_69 : decode prog_1_method_54_code 69 = .ok (.iload_n 3, 1) := by decide +kernel
theorem d_MessageCoder_formatCode_70 : decode prog_1_method_54_code 70 = .ok (.iload 4, 2) := by decide +kernel
theorem d_MessageCoder_formatCode_72 : decode prog_1_method_54_code 72 = .ok (.ishr, 1) := by decide +kernel
theorem d_MessageCoder_formatCode_73 : decode prog_1_method_54_code 73 = .ok (.iconst 1, 1) := by decide +kernel
theorem d_MessageCoder_formatCode_74 : decode prog_1_method_54_code 74 = .ok (.iand, 1) := by decide +kernel
theorem d_MessageCoder_formatCode_75 : decode prog_1_method_54_code 75 = .ok (.iconst 1, 1) := by decide +kernel
theorem d_MessageCoder_formatCode_76 : decode prog_1_method_54_code 76 = .ok (.if_icmp .ne 8, 3) := by decide +kernel
theorem d_MessageCoder_formatCode_79 : decode prog_1_method_54_code 79 = .ok (.bipush 49, 2) := by decide +kernel
theorem d_MessageCoder_formatCode_81 : decode prog_1_method_54_code 81 = .ok (.goto 5, 3) := by decide +kernel
theorem d_MessageCoder_formatCode_84 : decode prog_1_method_54_code 84 = .ok (.bipush 48, 2) := by decide +kernel
theorem d_MessageCoder_formatCode_86 : decode prog_1_method_54_code 86 = .ok (.invokevirtual 338, 3) := by decide +kernel
theorem d_MessageCoder_formatCode_89 : decode prog_1_method_54_code 89 = .ok (.pop, 1) := by decide +kernel
theorem d_MessageCoder_formatCode_90 : decode prog_1_method_54_code 90 = .ok (.iinc 4 (-1), 3) := by decide +kernel
theorem d_MessageCoder_formatCode_93 : decode prog_1_method_54_code 93 = .ok (.goto (-33), 3) := by decide +kernel
theorem d_MessageCoder_formatCode_96 : decode prog_1_method_54_code 96 = .ok (.aload_n 0, 1) := by decide +kernel
theorem d_MessageCoder_formatCode_97 : decode prog_1_method_54_code 97 = .ok (.getfield 35, 3) := by decide +kernel
theorem d_MessageCoder_formatCode_100 : decode prog_1_method_54_code 100 = .ok (.getfield 181, 3) := by decide +kernel
theorem d_MessageCoder_formatCode_103 : decode prog_1_method_54_code 103 = .ok (.ireturn, 1) := by decide +kernel
set_option maxHeartbeats 4000000 in
set_option maxRecDepth 20000 in
theorem c_MessageCoder_formatCode {P : xP} {F : xF} {z : Nat} {b : Nat} {cm : cmT} {M : mcS} {c : Nat} (hM : xMC F (cm) (b) (M)) (hZx : xZx P) (hcb : c < 65536) : xMx P xy_MessageCoder_formatCode [.ref b, .int (nI (c))] F (z) 1 6 (fun r9 F9 z9 => r9 = some (.int (nI (2 + hLen M.1.1 (c - 97)))) ∧ z9 = z ∧ xMC F9 (cm) (b) ((setL M (2 + hLen M.1.1 (c - 97)) (fmC c (hLen M.1.1 (c - 97)) (hVal (hLen M.1.1) (c - 97))))) ∧ (97 ≤ c ∧ c < 105) ∧ (∀ a9 : Nat, (a9 < b ∨ b + 566 ≤ a9) → F9 a9 = F a9)) (fun E9 F9 z9 => (E9 = "java/lang/IllegalArgumentException" ∧ xMC F9 (cm) (b) (M) ∧ (¬ (97 ≤ c ∧ c < 105)) ∧ (∀ a9 : Nat, (a9 < b ∨ b + 566 ≤ a9) → F9 a9 = F a9))) := by
  refine xMx_i .int rfl (Nat.le_of_ble_eq_true rfl) (L0 := [some (.ref b), some (.int (nI (c))), none, none, none]) rfl rfl fun Θ hC hR hret => ?_
  have hag : ∀ a9 : Nat, (a9 < b ∨ b + 566 ≤ a9) → F a9 = F a9 := fun a9 _ => rfl
  obtain ⟨A, S, past, ⟨pn, psg⟩, ⟨lnn, lsg⟩, sv, pp, un, ep, fc⟩ := M
  obtain ⟨b0, hs, hv, ⟨pf, hpa, hpf⟩, ⟨cc, pa, f1, f2, hf, K, p0, hK⟩, hin, hli, ⟨nb, fb9, hbt⟩, hrg, ⟨tn, tsg, htr⟩, ⟨cr, hcr⟩, hps⟩ := id hM
  obtain ⟨w, ⟨dn, ds⟩, ⟨k, nx, ms⟩, ⟨fk, fb, ftn, fts, fw⟩, ⟨rn, rs⟩, c1, c2, c3, c4⟩ := A
  obtain ⟨s0, h1, h2, ⟨p, m, h3, hms⟩, h4, h5⟩ := id hs
  have hms : ∀ i, i < k → m i = ms i := hms
  have b0 : F (b) = some (.inl (9, [.ref (b + 1), .ref (b + 50), .ref (b + 99), .ref (b + 100), .ref (b + 107), .ref (b + 109), .ref (b + 111), .ref (b + 122), .ref (b + 124), .int (nI (sv)), .int (nI (pp)), .int (nI (un)), .int ep, .int fc])) := b0
  have hv : xSt F (b + 50) (S) := hv
  have hpa : F (b + 99) = some (.inr (4, 9, pf)) := hpa
  have p0 : F (b + 100) = some (.inl (4, [.ref (b + 101), .ref (b + 103), .ref (b + 104), .ref (b + 105), .ref (b + 106), .int (nI (K.1)), .int (nI (cc)), .int (nI (pa)), .int (nI (f1)), .int (nI (f2)), .int (nI (hf))])) := p0
  have hK : xPk F (b + 100) (cm.2.1) (K) := hK
  have hin : xTx F (b + 101) (60) (pn) (psg) := hin
  have hli : xTx F (b + 107) (32) (lnn) (lsg) := hli
  have hbt : xBt F (b + 109) (nb) (fb9) := hbt
  have hrg : xRg F (b + 111) := hrg
  have htr : xTx F (b + 122) (16) (tn) (tsg) := htr
  have hcr : F (b + 124) = some (.inr (0, 17, fun b9 => .int (nI (cr b9)))) := hcr
  have hps : xPs F (b) (past) := hps
  have s0 : F (b + 1) = some (.inl (7, [.ref (b + 2), .ref (b + 9), .ref (b + 11), .ref (b + 37), .ref (b + 48), .int (nI (c1)), .int (nI (c2)), .int (nI (c3)), .int (nI (c4))])) := s0
  have h1 : xCd F (b + 2) (w) ((hLen w)) ((hVal (hLen w))) ((hOrd (hLen w))) ((hSum w)) := h1
  have h2 : xTx F (b + 9) (16) (dn) (ds) := h2
  have h3 : xQp F (b + 11) (k) (nx) (p) (m) := h3
  have h4 : xFr F (b + 37) (fk) (fb) (ftn) (fts) (fw) := h4
  have h5 : xTx F (b + 48) (16) (rn) (rs) := h5
  have hk8 : k ≤ 8 := h3.2.1.1
  obtain ⟨g0, ⟨ga, g1, gk1⟩, ⟨gb, g2, gk2⟩, ⟨gc, g3, gk3⟩, ⟨gd, g4, gk4⟩, ⟨g5x, ge, g5, gk5⟩, ⟨g6x, gf, g6, gk6⟩, gbd, gjs⟩ := id h1
  refine x_iload_n hC d_MessageCoder_formatCode_0 rfl rfl ?_
  refine x_callXS hC hR kY_MessageCoder_placeOf (x_in (x_of (xtb_2 (List.mem_of_getElem? (i := 116) (by decide +kernel)))) (by decide +kernel)) (x_in (x_of (xtb_2 (List.mem_of_getElem? (i := 117) (by decide +kernel)))) (by decide +kernel)) (c_MessageCoder_placeOf (hZx := hZx) (hcb := hcb)) (fun E9 F9 z9 hp9 => ⟨hp9.1, by rw [hp9.2.1]; exact ⟨b0, ⟨s0, h1, h2, ⟨p, m, h3, hms⟩, h4, h5⟩, hv, ⟨pf, hpa, hpf⟩, ⟨_, _, _, _, _, _, p0, hK⟩, hin, hli, ⟨_, _, hbt⟩, hrg, ⟨_, _, htr⟩, ⟨_, hcr⟩, hps⟩, hp9.2.2, by rw [hp9.2.1]; exact hag⟩) (by decide) rfl rfl rfl (Nat.le_of_ble_eq_true rfl) (by decide) d_MessageCoder_formatCode_1 (fun r9 F9 z9 hp9 => ?_)
  obtain ⟨rfl, h9b, h9c, pn0_1⟩ := hp9
  rw [h9b, h9c]
  clear h9b h9c F9 z9
  have hc8 : c - 97 < 8 := by omega
  have hL7 : hLen w (c - 97) ≤ 7 := (gbd _ hc8).2.1
  have hV9 : hVal (hLen w) (c - 97) < 2000 := (gbd _ hc8).2.2.1
  refine x_istore_n hC d_MessageCoder_formatCode_4 rfl (Nat.le_of_ble_eq_true rfl) (L1 := [some (.ref b), some (.int (nI (c))), some (.int (nI (c - 97))), none, none]) rfl ?_
  refine x_aload_n hC d_MessageCoder_formatCode_5 rfl rfl ?_
  refine x_getf hC kf_MessageCoder_12 b0 rfl d_MessageCoder_formatCode_6 ?_
  refine x_getf hC kf_MessageCoder_136 s0 rfl d_MessageCoder_formatCode_9 ?_
  refine x_getf hC kf_MessageCoder_156 g0 rfl d_MessageCoder_formatCode_12 ?_
  refine x_iload_n hC d_MessageCoder_formatCode_15 rfl rfl ?_
  refine x_iald hC g3 (j := c - 97) ⟨rfl, by omega, by omega⟩ (x := nI (hVal (hLen w) (c - 97))) (congrArg nI (gk3 _ hc8)) d_MessageCoder_formatCode_16 ?_
  refine x_istore_n hC d_MessageCoder_formatCode_17 rfl (Nat.le_of_ble_eq_true rfl) (L1 := [some (.ref b), some (.int (nI (c))), some (.int (nI (c - 97))), some (.int (nI (hVal (hLen w) (c - 97)))), none]) rfl ?_
  refine x_aload_n hC d_MessageCoder_formatCode_18 rfl rfl ?_
  refine x_getf hC kf_MessageCoder_35 b0 rfl d_MessageCoder_formatCode_19 ?_
  refine x_callV hC kv_MessageCoder_332 (c_Text_clear (ht := hli)) hli.1 rfl rfl (by decide) rfl rfl rfl (Nat.le_of_ble_eq_true rfl) (by decide) d_MessageCoder_formatCode_22 (fun r9 F9 z9 hp9 => ?_)
  obtain ⟨rfl, h9c, j0, hag9⟩ := hp9
  rw [h9c]
  clear h9c z9
  generalize F9 = F1 at *
  have b0 : F1 (b) = some (.inl (9, [.ref (b + 1), .ref (b + 50), .ref (b + 99), .ref (b + 100), .ref (b + 107), .ref (b + 109), .ref (b + 111), .ref (b + 122), .ref (b + 124), .int (nI (sv)), .int (nI (pp)), .int (nI (un)), .int ep, .int fc])) := (hag9 _ (by omega)).trans b0
  have hv : xSt F1 (b + 50) (S) := xSt_fr hv (fun a9 q1 q2 => hag9 a9 (by omega))
  have hpa : F1 (b + 99) = some (.inr (4, 9, pf)) := (hag9 _ (by omega)).trans hpa
  have p0 : F1 (b + 100) = some (.inl (4, [.ref (b + 101), .ref (b + 103), .ref (b + 104), .ref (b + 105), .ref (b + 106), .int (nI (K.1)), .int (nI (cc)), .int (nI (pa)), .int (nI (f1)), .int (nI (f2)), .int (nI (hf))])) := (hag9 _ (by omega)).trans p0
  have hK : xPk F1 (b + 100) (cm.2.1) (K) := xPk_fr hK (fun a9 q1 q2 => hag9 a9 (by omega))
  have hin : xTx F1 (b + 101) (60) (pn) (psg) := xTx_fr hin (fun a9 q1 q2 => hag9 a9 (by omega))
  have hbt : xBt F1 (b + 109) (nb) (fb9) := xBt_fr hbt (fun a9 q1 q2 => hag9 a9 (by omega))
  have hrg : xRg F1 (b + 111) := xRg_fr hrg (fun a9 q1 q2 => hag9 a9 (by omega))
  have htr : xTx F1 (b + 122) (16) (tn) (tsg) := xTx_fr htr (fun a9 q1 q2 => hag9 a9 (by omega))
  have hcr : F1 (b + 124) = some (.inr (0, 17, fun b9 => .int (nI (cr b9)))) := (hag9 _ (by omega)).trans hcr
  have hps : xPs F1 (b) (past) := xPs_fr hps (fun a9 q1 q2 => hag9 a9 (by omega))
  have s0 : F1 (b + 1) = some (.inl (7, [.ref (b + 2), .ref (b + 9), .ref (b + 11), .ref (b + 37), .ref (b + 48), .int (nI (c1)), .int (nI (c2)), .int (nI (c3)), .int (nI (c4))])) := (hag9 _ (by omega)).trans s0
  have h1 : xCd F1 (b + 2) (w) ((hLen w)) ((hVal (hLen w))) ((hOrd (hLen w))) ((hSum w)) := xCd_fr h1 (fun a9 q1 q2 => hag9 a9 (by omega))
  have h2 : xTx F1 (b + 9) (16) (dn) (ds) := xTx_fr h2 (fun a9 q1 q2 => hag9 a9 (by omega))
  have h3 : xQp F1 (b + 11) (k) (nx) (p) (m) := xQp_fr h3 (fun a9 q1 q2 => hag9 a9 (by omega))
  have h4 : xFr F1 (b + 37) (fk) (fb) (ftn) (fts) (fw) := xFr_fr h4 (fun a9 q1 q2 => hag9 a9 (by omega))
  have h5 : xTx F1 (b + 48) (16) (rn) (rs) := xTx_fr h5 (fun a9 q1 q2 => hag9 a9 (by omega))
  have g0 : F1 (b + 2) = some (.inl (1, [.ref (b + 3), .ref (b + 4), .ref (b + 5), .ref (b + 6), .ref (b + 7), .ref (b + 8), .int (nI (hSum w))])) := (hag9 _ (by omega)).trans g0
  have g1 : F1 (b + 3) = some (.inr (0, 8, fun b9 => .int (nI (ga b9)))) := (hag9 _ (by omega)).trans g1
  have g2 : F1 (b + 4) = some (.inr (0, 8, fun b9 => .int (nI (gb b9)))) := (hag9 _ (by omega)).trans g2
  have g3 : F1 (b + 5) = some (.inr (0, 8, fun b9 => .int (nI (gc b9)))) := (hag9 _ (by omega)).trans g3
  have g4 : F1 (b + 6) = some (.inr (0, 8, fun b9 => .int (nI (gd b9)))) := (hag9 _ (by omega)).trans g4
  have g5 : F1 (b + 7) = some (.inr (0, 8, fun b9 => .int (nI (ge b9)))) := (hag9 _ (by omega)).trans g5
  have g6 : F1 (b + 8) = some (.inr (0, 8, fun b9 => .int (nI (gf b9)))) := (hag9 _ (by omega)).trans g6
  have hli : xTx F1 ((b + 107)) (32) (0) (lsg) := j0
  have hag : ∀ a9 : Nat, (a9 < b ∨ b + 566 ≤ a9) → F1 a9 = F a9 := fun a9 q0 => (hag9 a9 (by omega)).trans (hag a9 q0)
  have hg_22 := hag9
  clear hag9
  refine x_aload_n hC d_MessageCoder_formatCode_25 rfl rfl ?_
  refine x_getf hC kf_MessageCoder_35 b0 rfl d_MessageCoder_formatCode_26 ?_
  refine x_iload_n hC d_MessageCoder_formatCode_29 rfl rfl ?_
  refine x_callV hC kv_MessageCoder_338 (c_Text_add1 (ht := hli) (hlt := by omega) (hc0 := by omega)) hli.1 rfl rfl (by decide) rfl rfl rfl (Nat.le_of_ble_eq_true rfl) (by decide) d_MessageCoder_formatCode_30 (fun r9 F9 z9 hp9 => ?_)
  obtain ⟨rfl, h9c, j0, hag9⟩ := hp9
  rw [h9c]
  clear h9c z9
  generalize F9 = F2 at *
  have b0 : F2 (b) = some (.inl (9, [.ref (b + 1), .ref (b + 50), .ref (b + 99), .ref (b + 100), .ref (b + 107), .ref (b + 109), .ref (b + 111), .ref (b + 122), .ref (b + 124), .int (nI (sv)), .int (nI (pp)), .int (nI (un)), .int ep, .int fc])) := (hag9 _ (by omega)).trans b0
  have hv : xSt F2 (b + 50) (S) := xSt_fr hv (fun a9 q1 q2 => hag9 a9 (by omega))
  have hpa : F2 (b + 99) = some (.inr (4, 9, pf)) := (hag9 _ (by omega)).trans hpa
  have p0 : F2 (b + 100) = some (.inl (4, [.ref (b + 101), .ref (b + 103), .ref (b + 104), .ref (b + 105), .ref (b + 106), .int (nI (K.1)), .int (nI (cc)), .int (nI (pa)), .int (nI (f1)), .int (nI (f2)), .int (nI (hf))])) := (hag9 _ (by omega)).trans p0
  have hK : xPk F2 (b + 100) (cm.2.1) (K) := xPk_fr hK (fun a9 q1 q2 => hag9 a9 (by omega))
  have hin : xTx F2 (b + 101) (60) (pn) (psg) := xTx_fr hin (fun a9 q1 q2 => hag9 a9 (by omega))
  have hbt : xBt F2 (b + 109) (nb) (fb9) := xBt_fr hbt (fun a9 q1 q2 => hag9 a9 (by omega))
  have hrg : xRg F2 (b + 111) := xRg_fr hrg (fun a9 q1 q2 => hag9 a9 (by omega))
  have htr : xTx F2 (b + 122) (16) (tn) (tsg) := xTx_fr htr (fun a9 q1 q2 => hag9 a9 (by omega))
  have hcr : F2 (b + 124) = some (.inr (0, 17, fun b9 => .int (nI (cr b9)))) := (hag9 _ (by omega)).trans hcr
  have hps : xPs F2 (b) (past) := xPs_fr hps (fun a9 q1 q2 => hag9 a9 (by omega))
  have s0 : F2 (b + 1) = some (.inl (7, [.ref (b + 2), .ref (b + 9), .ref (b + 11), .ref (b + 37), .ref (b + 48), .int (nI (c1)), .int (nI (c2)), .int (nI (c3)), .int (nI (c4))])) := (hag9 _ (by omega)).trans s0
  have h1 : xCd F2 (b + 2) (w) ((hLen w)) ((hVal (hLen w))) ((hOrd (hLen w))) ((hSum w)) := xCd_fr h1 (fun a9 q1 q2 => hag9 a9 (by omega))
  have h2 : xTx F2 (b + 9) (16) (dn) (ds) := xTx_fr h2 (fun a9 q1 q2 => hag9 a9 (by omega))
  have h3 : xQp F2 (b + 11) (k) (nx) (p) (m) := xQp_fr h3 (fun a9 q1 q2 => hag9 a9 (by omega))
  have h4 : xFr F2 (b + 37) (fk) (fb) (ftn) (fts) (fw) := xFr_fr h4 (fun a9 q1 q2 => hag9 a9 (by omega))
  have h5 : xTx F2 (b + 48) (16) (rn) (rs) := xTx_fr h5 (fun a9 q1 q2 => hag9 a9 (by omega))
  have g0 : F2 (b + 2) = some (.inl (1, [.ref (b + 3), .ref (b + 4), .ref (b + 5), .ref (b + 6), .ref (b + 7), .ref (b + 8), .int (nI (hSum w))])) := (hag9 _ (by omega)).trans g0
  have g1 : F2 (b + 3) = some (.inr (0, 8, fun b9 => .int (nI (ga b9)))) := (hag9 _ (by omega)).trans g1
  have g2 : F2 (b + 4) = some (.inr (0, 8, fun b9 => .int (nI (gb b9)))) := (hag9 _ (by omega)).trans g2
  have g3 : F2 (b + 5) = some (.inr (0, 8, fun b9 => .int (nI (gc b9)))) := (hag9 _ (by omega)).trans g3
  have g4 : F2 (b + 6) = some (.inr (0, 8, fun b9 => .int (nI (gd b9)))) := (hag9 _ (by omega)).trans g4
  have g5 : F2 (b + 7) = some (.inr (0, 8, fun b9 => .int (nI (ge b9)))) := (hag9 _ (by omega)).trans g5
  have g6 : F2 (b + 8) = some (.inr (0, 8, fun b9 => .int (nI (gf b9)))) := (hag9 _ (by omega)).trans g6
  have hli : xTx F2 ((b + 107)) (32) (0 + 1) (updN lsg 0 c) := j0
  have hag : ∀ a9 : Nat, (a9 < b ∨ b + 566 ≤ a9) → F2 a9 = F a9 := fun a9 q0 => (hag9 a9 (by omega)).trans (hag a9 q0)
  have hg_30 := hag9
  clear hag9
  refine x_pop hC d_MessageCoder_formatCode_33 rfl ?_
  refine x_aload_n hC d_MessageCoder_formatCode_34 rfl rfl ?_
  refine x_getf hC kf_MessageCoder_35 b0 rfl d_MessageCoder_formatCode_35 ?_
  refine x_bipush hC d_MessageCoder_formatCode_38 (v := nI 61) (by decide) ?_
  refine x_callV hC kv_MessageCoder_338 (c_Text_add1 (ht := hli) (hlt := by omega) (hc0 := by omega)) hli.1 rfl rfl (by decide) rfl rfl rfl (Nat.le_of_ble_eq_true rfl) (by decide) d_MessageCoder_formatCode_40 (fun r9 F9 z9 hp9 => ?_)
  obtain ⟨rfl, h9c, j0, hag9⟩ := hp9
  rw [h9c]
  clear h9c z9
  generalize F9 = F3 at *
  have b0 : F3 (b) = some (.inl (9, [.ref (b + 1), .ref (b + 50), .ref (b + 99), .ref (b + 100), .ref (b + 107), .ref (b + 109), .ref (b + 111), .ref (b + 122), .ref (b + 124), .int (nI (sv)), .int (nI (pp)), .int (nI (un)), .int ep, .int fc])) := (hag9 _ (by omega)).trans b0
  have hv : xSt F3 (b + 50) (S) := xSt_fr hv (fun a9 q1 q2 => hag9 a9 (by omega))
  have hpa : F3 (b + 99) = some (.inr (4, 9, pf)) := (hag9 _ (by omega)).trans hpa
  have p0 : F3 (b + 100) = some (.inl (4, [.ref (b + 101), .ref (b + 103), .ref (b + 104), .ref (b + 105), .ref (b + 106), .int (nI (K.1)), .int (nI (cc)), .int (nI (pa)), .int (nI (f1)), .int (nI (f2)), .int (nI (hf))])) := (hag9 _ (by omega)).trans p0
  have hK : xPk F3 (b + 100) (cm.2.1) (K) := xPk_fr hK (fun a9 q1 q2 => hag9 a9 (by omega))
  have hin : xTx F3 (b + 101) (60) (pn) (psg) := xTx_fr hin (fun a9 q1 q2 => hag9 a9 (by omega))
  have hbt : xBt F3 (b + 109) (nb) (fb9) := xBt_fr hbt (fun a9 q1 q2 => hag9 a9 (by omega))
  have hrg : xRg F3 (b + 111) := xRg_fr hrg (fun a9 q1 q2 => hag9 a9 (by omega))
  have htr : xTx F3 (b + 122) (16) (tn) (tsg) := xTx_fr htr (fun a9 q1 q2 => hag9 a9 (by omega))
  have hcr : F3 (b + 124) = some (.inr (0, 17, fun b9 => .int (nI (cr b9)))) := (hag9 _ (by omega)).trans hcr
  have hps : xPs F3 (b) (past) := xPs_fr hps (fun a9 q1 q2 => hag9 a9 (by omega))
  have s0 : F3 (b + 1) = some (.inl (7, [.ref (b + 2), .ref (b + 9), .ref (b + 11), .ref (b + 37), .ref (b + 48), .int (nI (c1)), .int (nI (c2)), .int (nI (c3)), .int (nI (c4))])) := (hag9 _ (by omega)).trans s0
  have h1 : xCd F3 (b + 2) (w) ((hLen w)) ((hVal (hLen w))) ((hOrd (hLen w))) ((hSum w)) := xCd_fr h1 (fun a9 q1 q2 => hag9 a9 (by omega))
  have h2 : xTx F3 (b + 9) (16) (dn) (ds) := xTx_fr h2 (fun a9 q1 q2 => hag9 a9 (by omega))
  have h3 : xQp F3 (b + 11) (k) (nx) (p) (m) := xQp_fr h3 (fun a9 q1 q2 => hag9 a9 (by omega))
  have h4 : xFr F3 (b + 37) (fk) (fb) (ftn) (fts) (fw) := xFr_fr h4 (fun a9 q1 q2 => hag9 a9 (by omega))
  have h5 : xTx F3 (b + 48) (16) (rn) (rs) := xTx_fr h5 (fun a9 q1 q2 => hag9 a9 (by omega))
  have g0 : F3 (b + 2) = some (.inl (1, [.ref (b + 3), .ref (b + 4), .ref (b + 5), .ref (b + 6), .ref (b + 7), .ref (b + 8), .int (nI (hSum w))])) := (hag9 _ (by omega)).trans g0
  have g1 : F3 (b + 3) = some (.inr (0, 8, fun b9 => .int (nI (ga b9)))) := (hag9 _ (by omega)).trans g1
  have g2 : F3 (b + 4) = some (.inr (0, 8, fun b9 => .int (nI (gb b9)))) := (hag9 _ (by omega)).trans g2
  have g3 : F3 (b + 5) = some (.inr (0, 8, fun b9 => .int (nI (gc b9)))) := (hag9 _ (by omega)).trans g3
  have g4 : F3 (b + 6) = some (.inr (0, 8, fun b9 => .int (nI (gd b9)))) := (hag9 _ (by omega)).trans g4
  have g5 : F3 (b + 7) = some (.inr (0, 8, fun b9 => .int (nI (ge b9)))) := (hag9 _ (by omega)).trans g5
  have g6 : F3 (b + 8) = some (.inr (0, 8, fun b9 => .int (nI (gf b9)))) := (hag9 _ (by omega)).trans g6
  have hli : xTx F3 ((b + 107)) (32) (1 + 1) (updN (updN lsg 0 c) 1 61) := j0
  have hag : ∀ a9 : Nat, (a9 < b ∨ b + 566 ≤ a9) → F3 a9 = F a9 := fun a9 q0 => (hag9 a9 (by omega)).trans (hag a9 q0)
  have hg_40 := hag9
  clear hag9
  have hli : xTx F3 (b + 107) (32) (2 + 0) ((fmC c (hLen w (c - 97)) (hVal (hLen w) (c - 97)))) := xTx_ext hli (fun j hj => by
    by_cases e0 : j = 0
    · rw [e0, updN_ne (by omega), updN_eq]; rfl
    · rw [show j = 0 + 1 by omega, updN_eq]; rfl)
  refine x_pop hC d_MessageCoder_formatCode_43 rfl ?_
  refine x_aload_n hC d_MessageCoder_formatCode_44 rfl rfl ?_
  refine x_getf hC kf_MessageCoder_12 b0 rfl d_MessageCoder_formatCode_45 ?_
  refine x_getf hC kf_MessageCoder_136 s0 rfl d_MessageCoder_formatCode_48 ?_
  refine x_getf hC kf_MessageCoder_153 g0 rfl d_MessageCoder_formatCode_51 ?_
  refine x_iload_n hC d_MessageCoder_formatCode_54 rfl rfl ?_
  refine x_iald hC g2 (j := c - 97) ⟨rfl, by omega, by omega⟩ (x := nI (hLen w (c - 97))) (congrArg nI (gk2 _ hc8)) d_MessageCoder_formatCode_55 ?_
  refine x_iconst hC d_MessageCoder_formatCode_56 (v := nI 1) (by decide) ?_
  refine x_isub hC d_MessageCoder_formatCode_57 (v := (nI (hLen w (c - 97)) - nI (0 + 1))) rfl ?_
  refine x_istore hC d_MessageCoder_formatCode_58 (Nat.le_of_ble_eq_true rfl) (L1 := [some (.ref b), some (.int (nI (c))), some (.int (nI (c - 97))), some (.int (nI (hVal (hLen w) (c - 97)))), some (.int (nI (hLen w (c - 97)) - nI (0 + 1)))]) rfl ?_
  have loop_60 : ∀ (m9 : Nat) (Fh60 : xF) (t : Nat), (Fh60 (b) = some (.inl (9, [.ref (b + 1), .ref (b + 50), .ref (b + 99), .ref (b + 100), .ref (b + 107), .ref (b + 109), .ref (b + 111), .ref (b + 122), .ref (b + 124), .int (nI (sv)), .int (nI (pp)), .int (nI (un)), .int ep, .int fc]))) → (xSt Fh60 (b + 50) (S)) → (Fh60 (b + 99) = some (.inr (4, 9, pf))) → (Fh60 (b + 100) = some (.inl (4, [.ref (b + 101), .ref (b + 103), .ref (b + 104), .ref (b + 105), .ref (b + 106), .int (nI (K.1)), .int (nI (cc)), .int (nI (pa)), .int (nI (f1)), .int (nI (f2)), .int (nI (hf))]))) → (xPk Fh60 (b + 100) (cm.2.1) (K)) → (xTx Fh60 (b + 101) (60) (pn) (psg)) → (xTx Fh60 (b + 107) (32) (2 + t) ((fmC c (hLen w (c - 97)) (hVal (hLen w) (c - 97))))) → (xBt Fh60 (b + 109) (nb) (fb9)) → (xRg Fh60 (b + 111)) → (xTx Fh60 (b + 122) (16) (tn) (tsg)) → (Fh60 (b + 124) = some (.inr (0, 17, fun b9 => .int (nI (cr b9))))) → (xPs Fh60 (b) (past)) → (Fh60 (b + 1) = some (.inl (7, [.ref (b + 2), .ref (b + 9), .ref (b + 11), .ref (b + 37), .ref (b + 48), .int (nI (c1)), .int (nI (c2)), .int (nI (c3)), .int (nI (c4))]))) → (xCd Fh60 (b + 2) (w) ((hLen w)) ((hVal (hLen w))) ((hOrd (hLen w))) ((hSum w))) → (xTx Fh60 (b + 9) (16) (dn) (ds)) → (xQp Fh60 (b + 11) (k) (nx) (p) (m)) → (xFr Fh60 (b + 37) (fk) (fb) (ftn) (fts) (fw)) → (xTx Fh60 (b + 48) (16) (rn) (rs)) → (Fh60 (b + 2) = some (.inl (1, [.ref (b + 3), .ref (b + 4), .ref (b + 5), .ref (b + 6), .ref (b + 7), .ref (b + 8), .int (nI (hSum w))]))) → (Fh60 (b + 3) = some (.inr (0, 8, fun b9 => .int (nI (ga b9))))) → (Fh60 (b + 4) = some (.inr (0, 8, fun b9 => .int (nI (gb b9))))) → (Fh60 (b + 5) = some (.inr (0, 8, fun b9 => .int (nI (gc b9))))) → (Fh60 (b + 6) = some (.inr (0, 8, fun b9 => .int (nI (gd b9))))) → (Fh60 (b + 7) = some (.inr (0, 8, fun b9 => .int (nI (ge b9))))) → (Fh60 (b + 8) = some (.inr (0, 8, fun b9 => .int (nI (gf b9))))) → (∀ a9 : Nat, (a9 < b ∨ b + 566 ≤ a9) → Fh60 a9 = F a9) → (t ≤ hLen w (c - 97)) → (hLen w (c - 97) - t < m9) → xX P Θ 60 [some (.ref b), some (.int (nI (c))), some (.int (nI (c - 97))), some (.int (nI (hVal (hLen w) (c - 97)))), some (.int (nI (hLen w (c - 97)) - nI (t + 1)))] [] Fh60 (z) 1 6 := by
    intro m9
    induction m9 with
    | zero => intros; omega
    | succ m9 ih_60 =>
      intro Fh60 t b0 hv hpa p0 hK hin hli hbt hrg htr hcr hps s0 h1 h2 h3 h4 h5 g0 g1 g2 g3 g4 g5 g6 hag ht hm_60
      refine x_iload hC d_MessageCoder_formatCode_60 rfl ?_
      refine x_if_lt hC d_MessageCoder_formatCode_62 (tgt := 96) (by decide) (fun c_62 => ?_) (fun c_62 => ?_)
      · skip
        have ht9 : hLen w (c - 97) ≤ t := by have := (x_sublt (by omega) (by omega)).mp c_62; omega
        have et : t = hLen w (c - 97) := by omega
        subst et
        refine x_aload_n hC d_MessageCoder_formatCode_96 rfl rfl ?_
        refine x_getf hC kf_MessageCoder_35 b0 rfl d_MessageCoder_formatCode_97 ?_
        refine x_getf hC kf_MessageCoder_181 hli.1 rfl d_MessageCoder_formatCode_100 ?_
        exact hret _ _ _ _ _ _ _ d_MessageCoder_formatCode_103 (by decide) (by decide) rfl (⟨rfl, rfl, ⟨b0, ⟨s0, h1, h2, ⟨p, m, h3, hms⟩, h4, h5⟩, hv, ⟨pf, hpa, hpf⟩, ⟨_, _, _, _, _, _, p0, hK⟩, hin, hli, ⟨_, _, hbt⟩, hrg, ⟨_, _, htr⟩, ⟨_, hcr⟩, hps⟩, pn0_1, hag⟩)
      · skip
        have ht8 : ¬ hLen w (c - 97) < t + 1 := fun e => c_62 ((x_sublt (by omega) (by omega)).mpr e)
        refine x_aload_n hC d_MessageCoder_formatCode_65 rfl rfl ?_
        refine x_getf hC kf_MessageCoder_35 b0 rfl d_MessageCoder_formatCode_66 ?_
        refine x_iload_n hC d_MessageCoder_formatCode_69 rfl rfl ?_
        refine x_iload hC d_MessageCoder_formatCode_70 rfl ?_
        refine x_ishr hC d_MessageCoder_formatCode_72 (v := (nI (hVal (hLen w) (c - 97) / 2 ^ (hLen w (c - 97) - (t + 1))))) (by rw [pk_sub (by omega)]; exact x_shrN _ (by omega) (by omega) rfl) ?_
        refine x_iconst hC d_MessageCoder_formatCode_73 (v := nI 1) (by decide) ?_
        refine x_iand hC d_MessageCoder_formatCode_74 (v := (nI (hVal (hLen w) (c - 97) / 2 ^ (hLen w (c - 97) - (t + 1)) % 2))) (x_and1 (Nat.lt_of_le_of_lt (Nat.div_le_self _ _) (by omega))) ?_
        refine x_iconst hC d_MessageCoder_formatCode_75 (v := nI 1) (by decide) ?_
        refine x_icmpN_ne hC d_MessageCoder_formatCode_76 (tgt := 84) (by decide) (by omega) (by omega) (fun c_76 => ?_) (fun c_76 => ?_)
        · skip
          refine x_bipush hC d_MessageCoder_formatCode_84 (v := nI 48) (by decide) ?_
          refine x_callV hC kv_MessageCoder_338 (c_Text_add1 (ht := hli) (hlt := by omega) (hc0 := by omega)) hli.1 rfl rfl (by decide) rfl rfl rfl (Nat.le_of_ble_eq_true rfl) (by decide) d_MessageCoder_formatCode_86 (fun r9 F9 z9 hp9 => ?_)
          obtain ⟨rfl, h9c, j0, hag9⟩ := hp9
          rw [h9c]
          clear h9c z9
          generalize F9 = F4 at *
          have b0 : F4 (b) = some (.inl (9, [.ref (b + 1), .ref (b + 50), .ref (b + 99), .ref (b + 100), .ref (b + 107), .ref (b + 109), .ref (b + 111), .ref (b + 122), .ref (b + 124), .int (nI (sv)), .int (nI (pp)), .int (nI (un)), .int ep, .int fc])) := (hag9 _ (by omega)).trans b0
          have hv : xSt F4 (b + 50) (S) := xSt_fr hv (fun a9 q1 q2 => hag9 a9 (by omega))
          have hpa : F4 (b + 99) = some (.inr (4, 9, pf)) := (hag9 _ (by omega)).trans hpa
          have p0 : F4 (b + 100) = some (.inl (4, [.ref (b + 101), .ref (b + 103), .ref (b + 104), .ref (b + 105), .ref (b + 106), .int (nI (K.1)), .int (nI (cc)), .int (nI (pa)), .int (nI (f1)), .int (nI (f2)), .int (nI (hf))])) := (hag9 _ (by omega)).trans p0
          have hK : xPk F4 (b + 100) (cm.2.1) (K) := xPk_fr hK (fun a9 q1 q2 => hag9 a9 (by omega))
          have hin : xTx F4 (b + 101) (60) (pn) (psg) := xTx_fr hin (fun a9 q1 q2 => hag9 a9 (by omega))
          have hbt : xBt F4 (b + 109) (nb) (fb9) := xBt_fr hbt (fun a9 q1 q2 => hag9 a9 (by omega))
          have hrg : xRg F4 (b + 111) := xRg_fr hrg (fun a9 q1 q2 => hag9 a9 (by omega))
          have htr : xTx F4 (b + 122) (16) (tn) (tsg) := xTx_fr htr (fun a9 q1 q2 => hag9 a9 (by omega))
          have hcr : F4 (b + 124) = some (.inr (0, 17, fun b9 => .int (nI (cr b9)))) := (hag9 _ (by omega)).trans hcr
          have hps : xPs F4 (b) (past) := xPs_fr hps (fun a9 q1 q2 => hag9 a9 (by omega))
          have s0 : F4 (b + 1) = some (.inl (7, [.ref (b + 2), .ref (b + 9), .ref (b + 11), .ref (b + 37), .ref (b + 48), .int (nI (c1)), .int (nI (c2)), .int (nI (c3)), .int (nI (c4))])) := (hag9 _ (by omega)).trans s0
          have h1 : xCd F4 (b + 2) (w) ((hLen w)) ((hVal (hLen w))) ((hOrd (hLen w))) ((hSum w)) := xCd_fr h1 (fun a9 q1 q2 => hag9 a9 (by omega))
          have h2 : xTx F4 (b + 9) (16) (dn) (ds) := xTx_fr h2 (fun a9 q1 q2 => hag9 a9 (by omega))
          have h3 : xQp F4 (b + 11) (k) (nx) (p) (m) := xQp_fr h3 (fun a9 q1 q2 => hag9 a9 (by omega))
          have h4 : xFr F4 (b + 37) (fk) (fb) (ftn) (fts) (fw) := xFr_fr h4 (fun a9 q1 q2 => hag9 a9 (by omega))
          have h5 : xTx F4 (b + 48) (16) (rn) (rs) := xTx_fr h5 (fun a9 q1 q2 => hag9 a9 (by omega))
          have g0 : F4 (b + 2) = some (.inl (1, [.ref (b + 3), .ref (b + 4), .ref (b + 5), .ref (b + 6), .ref (b + 7), .ref (b + 8), .int (nI (hSum w))])) := (hag9 _ (by omega)).trans g0
          have g1 : F4 (b + 3) = some (.inr (0, 8, fun b9 => .int (nI (ga b9)))) := (hag9 _ (by omega)).trans g1
          have g2 : F4 (b + 4) = some (.inr (0, 8, fun b9 => .int (nI (gb b9)))) := (hag9 _ (by omega)).trans g2
          have g3 : F4 (b + 5) = some (.inr (0, 8, fun b9 => .int (nI (gc b9)))) := (hag9 _ (by omega)).trans g3
          have g4 : F4 (b + 6) = some (.inr (0, 8, fun b9 => .int (nI (gd b9)))) := (hag9 _ (by omega)).trans g4
          have g5 : F4 (b + 7) = some (.inr (0, 8, fun b9 => .int (nI (ge b9)))) := (hag9 _ (by omega)).trans g5
          have g6 : F4 (b + 8) = some (.inr (0, 8, fun b9 => .int (nI (gf b9)))) := (hag9 _ (by omega)).trans g6
          have hli : xTx F4 ((b + 107)) (32) ((2 + t) + 1) (updN (fmC c (hLen w (c - 97)) (hVal (hLen w) (c - 97))) (2 + t) 48) := j0
          have hag : ∀ a9 : Nat, (a9 < b ∨ b + 566 ≤ a9) → F4 a9 = F a9 := fun a9 q0 => (hag9 a9 (by omega)).trans (hag a9 q0)
          have hg_86 := hag9
          clear hag9
          refine x_pop hC d_MessageCoder_formatCode_89 rfl ?_
          have hli : xTx F4 (b + 107) (32) (2 + t + 1) ((fmC c (hLen w (c - 97)) (hVal (hLen w) (c - 97)))) := xTx_ext hli (fun j hj => (Nat.lt_or_ge j (2 + t)).elim (fun q => updN_ne (by omega)) (fun q => by rw [show j = 2 + t by omega, updN_eq, fmC_s (by omega), codeB, show 2 + t - 2 = t by omega, show hLen w (c - 97) - 1 - t = hLen w (c - 97) - (t + 1) by omega]; omega))
          refine x_iinc hC d_MessageCoder_formatCode_90 rfl (v := (nI (hLen w (c - 97)) - nI ((t + 1) + 1))) (x_sub1 _ _) (Nat.le_of_ble_eq_true rfl) (L1 := [some (.ref b), some (.int (nI (c))), some (.int (nI (c - 97))), some (.int (nI (hVal (hLen w) (c - 97)))), some (.int (nI (hLen w (c - 97)) - nI ((t + 1) + 1)))]) rfl ?_
          refine x_goto hC d_MessageCoder_formatCode_93 (tgt := 60) (by decide) ?_
          exact ih_60 F4 (t + 1) b0 hv hpa p0 hK hin hli hbt hrg htr hcr hps s0 h1 h2 h3 h4 h5 g0 g1 g2 g3 g4 g5 g6 hag (by omega) (by omega)
        · skip
          refine x_bipush hC d_MessageCoder_formatCode_79 (v := nI 49) (by decide) ?_
          refine x_goto hC d_MessageCoder_formatCode_81 (tgt := 86) (by decide) ?_
          refine x_callV hC kv_MessageCoder_338 (c_Text_add1 (ht := hli) (hlt := by omega) (hc0 := by omega)) hli.1 rfl rfl (by decide) rfl rfl rfl (Nat.le_of_ble_eq_true rfl) (by decide) d_MessageCoder_formatCode_86 (fun r9 F9 z9 hp9 => ?_)
          obtain ⟨rfl, h9c, j0, hag9⟩ := hp9
          rw [h9c]
          clear h9c z9
          generalize F9 = F5 at *
          have b0 : F5 (b) = some (.inl (9, [.ref (b + 1), .ref (b + 50), .ref (b + 99), .ref (b + 100), .ref (b + 107), .ref (b + 109), .ref (b + 111), .ref (b + 122), .ref (b + 124), .int (nI (sv)), .int (nI (pp)), .int (nI (un)), .int ep, .int fc])) := (hag9 _ (by omega)).trans b0
          have hv : xSt F5 (b + 50) (S) := xSt_fr hv (fun a9 q1 q2 => hag9 a9 (by omega))
          have hpa : F5 (b + 99) = some (.inr (4, 9, pf)) := (hag9 _ (by omega)).trans hpa
          have p0 : F5 (b + 100) = some (.inl (4, [.ref (b + 101), .ref (b + 103), .ref (b + 104), .ref (b + 105), .ref (b + 106), .int (nI (K.1)), .int (nI (cc)), .int (nI (pa)), .int (nI (f1)), .int (nI (f2)), .int (nI (hf))])) := (hag9 _ (by omega)).trans p0
          have hK : xPk F5 (b + 100) (cm.2.1) (K) := xPk_fr hK (fun a9 q1 q2 => hag9 a9 (by omega))
          have hin : xTx F5 (b + 101) (60) (pn) (psg) := xTx_fr hin (fun a9 q1 q2 => hag9 a9 (by omega))
          have hbt : xBt F5 (b + 109) (nb) (fb9) := xBt_fr hbt (fun a9 q1 q2 => hag9 a9 (by omega))
          have hrg : xRg F5 (b + 111) := xRg_fr hrg (fun a9 q1 q2 => hag9 a9 (by omega))
          have htr : xTx F5 (b + 122) (16) (tn) (tsg) := xTx_fr htr (fun a9 q1 q2 => hag9 a9 (by omega))
          have hcr : F5 (b + 124) = some (.inr (0, 17, fun b9 => .int (nI (cr b9)))) := (hag9 _ (by omega)).trans hcr
          have hps : xPs F5 (b) (past) := xPs_fr hps (fun a9 q1 q2 => hag9 a9 (by omega))
          have s0 : F5 (b + 1) = some (.inl (7, [.ref (b + 2), .ref (b + 9), .ref (b + 11), .ref (b + 37), .ref (b + 48), .int (nI (c1)), .int (nI (c2)), .int (nI (c3)), .int (nI (c4))])) := (hag9 _ (by omega)).trans s0
          have h1 : xCd F5 (b + 2) (w) ((hLen w)) ((hVal (hLen w))) ((hOrd (hLen w))) ((hSum w)) := xCd_fr h1 (fun a9 q1 q2 => hag9 a9 (by omega))
          have h2 : xTx F5 (b + 9) (16) (dn) (ds) := xTx_fr h2 (fun a9 q1 q2 => hag9 a9 (by omega))
          have h3 : xQp F5 (b + 11) (k) (nx) (p) (m) := xQp_fr h3 (fun a9 q1 q2 => hag9 a9 (by omega))
          have h4 : xFr F5 (b + 37) (fk) (fb) (ftn) (fts) (fw) := xFr_fr h4 (fun a9 q1 q2 => hag9 a9 (by omega))
          have h5 : xTx F5 (b + 48) (16) (rn) (rs) := xTx_fr h5 (fun a9 q1 q2 => hag9 a9 (by omega))
          have g0 : F5 (b + 2) = some (.inl (1, [.ref (b + 3), .ref (b + 4), .ref (b + 5), .ref (b + 6), .ref (b + 7), .ref (b + 8), .int (nI (hSum w))])) := (hag9 _ (by omega)).trans g0
          have g1 : F5 (b + 3) = some (.inr (0, 8, fun b9 => .int (nI (ga b9)))) := (hag9 _ (by omega)).trans g1
          have g2 : F5 (b + 4) = some (.inr (0, 8, fun b9 => .int (nI (gb b9)))) := (hag9 _ (by omega)).trans g2
          have g3 : F5 (b + 5) = some (.inr (0, 8, fun b9 => .int (nI (gc b9)))) := (hag9 _ (by omega)).trans g3
          have g4 : F5 (b + 6) = some (.inr (0, 8, fun b9 => .int (nI (gd b9)))) := (hag9 _ (by omega)).trans g4
          have g5 : F5 (b + 7) = some (.inr (0, 8, fun b9 => .int (nI (ge b9)))) := (hag9 _ (by omega)).trans g5
          have g6 : F5 (b + 8) = some (.inr (0, 8, fun b9 => .int (nI (gf b9)))) := (hag9 _ (by omega)).trans g6
          have hli : xTx F5 ((b + 107)) (32) ((2 + t) + 1) (updN (fmC c (hLen w (c - 97)) (hVal (hLen w) (c - 97))) (2 + t) 49) := j0
          have hag : ∀ a9 : Nat, (a9 < b ∨ b + 566 ≤ a9) → F5 a9 = F a9 := fun a9 q0 => (hag9 a9 (by omega)).trans (hag a9 q0)
          have hg_86 := hag9
          clear hag9
          refine x_pop hC d_MessageCoder_formatCode_89 rfl ?_
          have hli : xTx F5 (b + 107) (32) (2 + t + 1) ((fmC c (hLen w (c - 97)) (hVal (hLen w) (c - 97)))) := xTx_ext hli (fun j hj => (Nat.lt_or_ge j (2 + t)).elim (fun q => updN_ne (by omega)) (fun q => by rw [show j = 2 + t by omega, updN_eq, fmC_s (by omega), codeB, show 2 + t - 2 = t by omega, show hLen w (c - 97) - 1 - t = hLen w (c - 97) - (t + 1) by omega]; omega))
          refine x_iinc hC d_MessageCoder_formatCode_90 rfl (v := (nI (hLen w (c - 97)) - nI ((t + 1) + 1))) (x_sub1 _ _) (Nat.le_of_ble_eq_true rfl) (L1 := [some (.ref b), some (.int (nI (c))), some (.int (nI (c - 97))), some (.int (nI (hVal (hLen w) (c - 97)))), some (.int (nI (hLen w (c - 97)) - nI ((t + 1) + 1)))]) rfl ?_
          refine x_goto hC d_MessageCoder_formatCode_93 (tgt := 60) (by decide) ?_
          exact ih_60 F5 (t + 1) b0 hv hpa p0 hK hin hli hbt hrg htr hcr hps s0 h1 h2 h3 h4 h5 g0 g1 g2 g3 g4 g5 g6 hag (by omega) (by omega)
  exact loop_60 (hLen w (c - 97) - 0 + 1) F3 (0) b0 hv hpa p0 hK hin hli hbt hrg htr hcr hps s0 h1 h2 h3 h4 h5 g0 g1 g2 g3 g4 g5 g6 hag (by omega) (by omega)





/-- the steps of a program, one behind the other: whether all went, how many, the state -/
def prgS (K : kS) (A : aS) : Nat → Bool × Nat × aS
  | 0 => (true, 0, A)
  | i + 1 => if (prgS K A i).1 = true then if (aDo (prgS K A i).2.2 (K.2.1 i) (K.2.2.1 i) (K.2.2.2.1 i)).1 < 0 then (false, i, (prgS K A i).2.2) else (true, i + 1, (aDo (prgS K A i).2.2 (K.2.1 i) (K.2.2.1 i) (K.2.2.2.1 i)).2) else prgS K A i
theorem prgS_stop {K : kS} {A : aS} {k : Nat} (h : (prgS K A k).1 = false) : ∀ j, prgS K A (k + j) = prgS K A k
  | 0 => rfl
  | j + 1 => by
    show (if (prgS K A (k + j)).1 = true then _ else prgS K A (k + j)) = _
    rw [prgS_stop h j, if_neg (by rw [h]; decide)]
theorem prgS_fail {K : kS} {A B : aS} {i : Nat} (h : prgS K A i = (true, i, B)) (hi : i < K.1) (hf : (aDo B (K.2.1 i) (K.2.2.1 i) (K.2.2.2.1 i)).1 < 0) : prgS K A K.1 = (false, i, B) := by
  have e1 : prgS K A (i + 1) = (false, i, B) := by
    show (if (prgS K A i).1 = true then _ else _) = _
    rw [h, if_pos rfl]
    exact if_pos hf
  have e2 := prgS_stop (K := K) (A := A) (k := i + 1) (by rw [e1]) (K.1 - (i + 1))
  rw [show i + 1 + (K.1 - (i + 1)) = K.1 by omega, e1] at e2
  exact e2
theorem prgS_next {K : kS} {A B : aS} {i : Nat} (h : prgS K A i = (true, i, B)) (hf : ¬ (aDo B (K.2.1 i) (K.2.2.1 i) (K.2.2.2.1 i)).1 < 0) : prgS K A (i + 1) = (true, i + 1, (aDo B (K.2.1 i) (K.2.2.1 i) (K.2.2.2.1 i)).2) := by
  show (if (prgS K A i).1 = true then _ else _) = _
  rw [h, if_pos rfl]
  exact if_neg hf
theorem aDo_nx (A : aS) (j c x : Nat) : (aDo A j c x).2.2.2.1.2.1 ≤ A.2.2.1.2.1 + 1 := by
  unfold aDo
  repeat' split
  · unfold aWt; split <;> exact Nat.le_succ _
  · unfold aDr; split
    · split <;> exact Nat.le_succ _
    · exact Nat.le_succ _
  · exact Nat.le_succ _
  · unfold aPo; split
    · split
      · exact Nat.le_succ _
      · exact Nat.le_refl _
    · exact Nat.le_succ _
  · unfold aDi; split <;> exact Nat.le_succ _
  · unfold aHu; split
    · split <;> exact Nat.le_succ _
    · exact Nat.le_succ _
  · unfold aLe; split <;> exact Nat.le_succ _
  · unfold aSe; split <;> exact Nat.le_succ _
  · unfold aFl; split <;> exact Nat.le_succ _
  · unfold aRe; split <;> exact Nat.le_succ _
def prgP (K : kS) (A : aS) (pp : Nat) : Nat := if (prgS K A K.1).1 = true then pp + 1 else pp
def prgU (K : kS) (A : aS) (un : Nat) : Nat := if (prgS K A K.1).1 = true then un1 un else un
def prgA (K : kS) (A : aS) : aS := if (prgS K A K.1).1 = true then (prgS K A K.1).2.2 else A
def prgV (K : kS) (A : aS) : Int32 := if (prgS K A K.1).1 = true then -1 else nI (K.2.2.2.2 (prgS K A K.1).2.1)


