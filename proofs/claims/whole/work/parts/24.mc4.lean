/-- a symbol's code as a line -/
def fmC (c l v : Nat) : Nat → Nat := fun j => if j = 0 then c else if j = 1 then 61 else 48 + codeB l v (j - 2)
theorem fmC_s {c l v j : Nat} (h : 2 ≤ j) : fmC c l v j = 48 + codeB l v (j - 2) := by
  unfold fmC
  rw [if_neg (by omega), if_neg (by omega)]
def setI (M : mcS) (n : Nat) (s : Nat → Nat) : mcS := (M.1, M.2.1, M.2.2.1, (n, s), M.2.2.2.2)
def undM (M : mcS) : mcS := (M.2.2.1 ((M.2.2.2.2.2.2.1 - 1) % 9), M.2.1, M.2.2.1, M.2.2.2.1, M.2.2.2.2.1, M.2.2.2.2.2.1, M.2.2.2.2.2.2.1 - 1, M.2.2.2.2.2.2.2.1 - 1, M.2.2.2.2.2.2.2.2)
def savM (M : mcS) : mcS := (M.1, M.1, M.2.2.1, M.2.2.2.1, M.2.2.2.2.1, 1, M.2.2.2.2.2.2)
def resM (M : mcS) : mcS := (M.2.1, M.2.1, M.2.2.1, M.2.2.2.1, M.2.2.2.2.1, M.2.2.2.2.2.1, M.2.2.2.2.2.2.1, 0, M.2.2.2.2.2.2.2.2)

theorem d_MessageCoder_formatCode_0 : decode prog_1_method_54_code 0 = .ok (.iload_n 1, 1) := by decide +kernel
theorem d_MessageCoder_formatCode_1 : decode prog_1_method_54_code 1 = .ok (.invokestatic 145, 3) := by decide +kernel
theorem d_MessageCoder_formatCode_4 : decode prog_1_method_54_code 4 = .ok (.istore_n 2, 1) := by decide +kernel
theorem d_MessageCoder_formatCode_5 : decode prog_1_method_54_code 5 = .ok (.aload_n 0, 1) := by decide +kernel
theorem d_MessageCoder_formatCode_6 : decode prog_1_method_54_code 6 = .ok (.getfield 12, 3) := by decide +kernel
theorem d_MessageCoder_formatCode_9 : decode prog_1_method_54_code 9 = .ok (.getfield 136, 3) := by decide +kernel
theorem d_MessageCoder_formatCode_12 : decode prog_1_method_54_code 12 = .ok (.getfield 156, 3) := by decide +kernel
theorem d_MessageCoder_formatCode_15 : decode prog_1_method_54_code 15 = .ok (.iload_n 2, 1) := by decide +kernel
theorem d_MessageCoder_formatCode_16 : decode prog_1_method_54_code 16 = .ok (.iaload, 1) := by decide +kernel
theorem d_MessageCoder_formatCode_17 : decode prog_1_method_54_code 17 = .ok (.istore_n 3, 1) := by decide +kernel
theorem d_MessageCoder_formatCode_18 : decode prog_1_method_54_code 18 = .ok (.aload_n 0, 1) := by decide +kernel
theorem d_MessageCoder_formatCode_19 : decode prog_1_method_54_code 19 = .ok (.getfield 35, 3) := by decide +kernel
theorem d_MessageCoder_formatCode_22 : decode prog_1_method_54_code 22 = .ok (.invokevirtual 332, 3) := by decide +kernel
theorem d_MessageCoder_formatCode_25 : decode prog_1_method_54_code 25 = .ok (.aload_n 0, 1) := by decide +kernel
theorem d_MessageCoder_formatCode_26 : decode prog_1_method_54_code 26 = .ok (.getfield 35, 3) := by decide +kernel
theorem d_MessageCoder_formatCode_29 : decode prog_1_method_54_code 29 = .ok (.iload_n 1, 1) := by decide +kernel
theorem d_MessageCoder_formatCode_30 : decode prog_1_method_54_code 30 = .ok (.invokevirtual 338, 3) := by decide +kernel
theorem d_MessageCoder_formatCode_33 : decode prog_1_method_54_code 33 = .ok (.pop, 1) := by decide +kernel
theorem d_MessageCoder_formatCode_34 : decode prog_1_method_54_code 34 = .ok (.aload_n 0, 1) := by decide +kernel
theorem d_MessageCoder_formatCode_35 : decode prog_1_method_54_code 35 = .ok (.getfield 35, 3) := by decide +kernel
theorem d_MessageCoder_formatCode_38 : decode prog_1_method_54_code 38 = .ok (.bipush 61, 2) := by decide +kernel
theorem d_MessageCoder_formatCode_40 : decode prog_1_method_54_code 40 = .ok (.invokevirtual 338, 3) := by decide +kernel
theorem d_MessageCoder_formatCode_43 : decode prog_1_method_54_code 43 = .ok (.pop, 1) := by decide +kernel
theorem d_MessageCoder_formatCode_44 : decode prog_1_method_54_code 44 = .ok (.aload_n 0, 1) := by decide +kernel
theorem d_MessageCoder_formatCode_45 : decode prog_1_method_54_code 45 = .ok (.getfield 12, 3) := by decide +kernel
theorem d_MessageCoder_formatCode_48 : decode prog_1_method_54_code 48 = .ok (.getfield 136, 3) := by decide +kernel
theorem d_MessageCoder_formatCode_51 : decode prog_1_method_54_code 51 = .ok (.getfield 153, 3) := by decide +kernel
theorem d_MessageCoder_formatCode_54 : decode prog_1_method_54_code 54 = .ok (.iload_n 2, 1) := by decide +kernel
theorem d_MessageCoder_formatCode_55 : decode prog_1_method_54_code 55 = .ok (.iaload, 1) := by decide +kernel
theorem d_MessageCoder_formatCode_56 : decode prog_1_method_54_code 56 = .ok (.iconst 1, 1) := by decide +kernel
theorem d_MessageCoder_formatCode_57 : decode prog_1_method_54_code 57 = .ok (.isub, 1) := by decide +kernel
theorem d_MessageCoder_formatCode_58 : decode prog_1_method_54_code 58 = .ok (.istore 4, 2) := by decide +kernel
theorem d_MessageCoder_formatCode_60 : decode prog_1_method_54_code 60 = .ok (.iload 4, 2) := by decide +kernel
theorem d_MessageCoder_formatCode_62 : decode prog_1_method_54_code 62 = .ok (.ifCond .lt 34, 3) := by decide +kernel
theorem d_MessageCoder_formatCode_65 : decode prog_1_method_54_code 65 = .ok (.aload_n 0, 1) := by decide +kernel
theorem d_MessageCoder_formatCode_66 : decode prog_1_method_54_code 66 = .ok (.getfield 35, 3) := by decide +kernel
theorem d_MessageCoder_formatCode_69 : decode prog_1_method_54_code 69 = .ok (.iload_n 3, 1) := by decide +kernel
theorem d_MessageCoder_formatCode_70 : decode prog_1_method_54_code 70 = .ok (.iload 4, 2) := by decide +kernel
theorem d_MessageCoder_formatCode_72 : decode prog_1_method_54_code 72 = .ok (.ishr, 1) := by decide +kernel
theorem d_MessageCoder_formatCode_73 : decode prog_1_method_54_code 73 = .ok (.iconst 1, 1) := by decide +kernel
theorem d_MessageCoder_formatCode_74 : decode prog_1_method_54_code 74 = .ok (.iand, 1) := by decide +kernel
theorem d_MessageCoder_formatCode_75 : decode prog_1_method_54_code 75 = .ok (.iconst 1, 1) := by decide +kernel
theorem d_MessageCoder_formatCode_76 : decode prog_1_method_54_code 76 = .ok (.if_icmp .ne 8, 3) := by decide +kernel
theorem d_MessageCoder_formatCode_79 : decode prog_1_method_54_code 79 = .ok (.bipush 49, 2) := by decide +kernel
theorem d_MessageCoder_formatCode_81 : decode prog_1_method_54_code 81 = .ok (.goto 5, 3) := by decide +kernel
theorem d_MessageCoder_formatCode_84 : decode prog_1_method_54_code 84 = .ok (.bipush 48, 2) := by decide +kernel
theorem d_MessageCoder_formatCode_86 : decode prog_1_method_54_code 86 = .ok (.invokevirtual 338, 3) := by decide +kernel
theorem d_MessageCoder_formatCode_89 : decode prog_1_method_54_code 89 = .ok (.pop, 1) := by decide +kernel
theorem d_MessageCoder_formatCode_90 : decode prog_1_method_54_code 90 = .ok (.iinc 4 (-1), 3) := by decide +kernel
theorem d_MessageCoder_formatCode_93 : decode prog_1_method_54_code 93 = .ok (.goto (-33), 3) := by decide +kernel
theorem d_MessageCoder_formatCode_96 : decode prog_1_method_54_code 96 = .ok (.aload_n 0, 1) := by decide +kernel
theorem d_MessageCoder_formatCode_97 : decode prog_1_method_54_code 97 = .ok (.getfield 35, 3) := by decide +kernel
theorem d_MessageCoder_formatCode_100 : decode prog_1_method_54_code 100 = .ok (.getfield 181, 3) := by decide +kernel
theorem d_MessageCoder_formatCode_103 : decode prog_1_method_54_code 103 = .ok (.ireturn, 1) := by decide +kernel
set_option maxHeartbeats 4000000 in
set_option maxRecDepth 20000 in
theorem c_MessageCoder_formatCode {P : xP} {F : xF} {z : Nat} {b : Nat} {cm : cmT} {M : mcS} {c : Nat} (hM : xMC F (cm) (b) (M)) (hZx : xZx P) (hcb : c < 65536) : xMx P xy_MessageCoder_formatCode [.ref b, .int (nI (c))] F (z) 1 6 (fun r9 F9 z9 => r9 = some (.int (nI (2 + hLen M.1.1 (c - 97)))) ∧ z9 = z ∧ xMC F9 (cm) (b) ((setL M (2 + hLen M.1.1 (c - 97)) (fmC c (hLen M.1.1 (c - 97)) (hVal (hLen M.1.1) (c - 97))))) ∧ (97 ≤ c ∧ c < 105) ∧ (∀ a9 : Nat, (a9 < b ∨ b + 566 ≤ a9) → F9 a9 = F a9)) (fun E9 F9 z9 => (E9 = "java/lang/IllegalArgumentException" ∧ xMC F9 (cm) (b) (M) ∧ (¬ (97 ≤ c ∧ c < 105)) ∧ (∀ a9 : Nat, (a9 < b ∨ b + 566 ≤ a9) → F9 a9 = F a9))) := by
  refine xMx_i .int rfl (Nat.le_of_ble_eq_true rfl) (L0 := [some (.ref b), some (.int (nI (c))), none, none, none]) rfl rfl fun Θ hC hR hret => ?_
  have hag : ∀ a9 : Nat, (a9 < b ∨ b + 566 ≤ a9) → F a9 = F a9 := fun a9 _ => rfl
  obtain ⟨A, S, past, ⟨pn, psg⟩, ⟨lnn, lsg⟩, sv, pp, un, ep, fc⟩ := M
  obtain ⟨b0, hs, hv, ⟨pf, hpa, hpf⟩, ⟨cc, pa, f1, f2, hf, K, p0, hK⟩, hin, hli, ⟨nb, fb9, hbt⟩, hrg, ⟨tn, tsg, htr⟩, ⟨cr, hcr⟩, hps⟩ := id hM
  obtain ⟨w, ⟨dn, ds⟩, ⟨k, nx, ms⟩, ⟨fk, fb, ftn, fts, fw⟩, ⟨rn, rs⟩, c1, c2, c3, c4⟩ := A
  obtain ⟨s0, h1, h2, ⟨p, m, h3, hms⟩, h4, h5⟩ := id hs
  have hms : ∀ i, i < k → m i = ms i := hms
  have b0 : F (b) = some (.inl (9, [.ref (b + 1), .ref (b + 50), .ref (b + 99), .ref (b + 100), .ref (b + 107), .ref (b + 109), .ref (b + 111), .ref (b + 122), .ref (b + 124), .int (nI (sv)), .int (nI (pp)), .int (nI (un)), .int ep, .int fc])) := b0
  have hv : xSt F (b + 50) (S) := hv
  have hpa : F (b + 99) = some (.inr (4, 9, pf)) := hpa
  have p0 : F (b + 100) = some (.inl (4, [.ref (b + 101), .ref (b + 103), .ref (b + 104), .ref (b + 105), .ref (b + 106), .int (nI (K.1)), .int (nI (cc)), .int (nI (pa)), .int (nI (f1)), .int (nI (f2)), .int (nI (hf))])) := p0
  have hK : xPk F (b + 100) (cm.2.1) (K) := hK
  have hin : xTx F (b + 101) (60) (pn) (psg) := hin
  have hli : xTx F (b + 107) (32) (lnn) (lsg) := hli
  have hbt : xBt F (b + 109) (nb) (fb9) := hbt
  have hrg : xRg F (b + 111) := hrg
  have htr : xTx F (b + 122) (16) (tn) (tsg) := htr
  have hcr : F (b + 124) = some (.inr (0, 17, fun b9 => .int (nI (cr b9)))) := hcr
  have hps : xPs F (b) (past) := hps
  have s0 : F (b + 1) = some (.inl (7, [.ref (b + 2), .ref (b + 9), .ref (b + 11), .ref (b + 37), .ref (b + 48), .int (nI (c1)), .int (nI (c2)), .int (nI (c3)), .int (nI (c4))])) := s0
  have h1 : xCd F (b + 2) (w) ((hLen w)) ((hVal (hLen w))) ((hOrd (hLen w))) ((hSum w)) := h1
  have h2 : xTx F (b + 9) (16) (dn) (ds) := h2
  have h3 : xQp F (b + 11) (k) (nx) (p) (m) := h3
  have h4 : xFr F (b + 37) (fk) (fb) (ftn) (fts) (fw) := h4
  have h5 : xTx F (b + 48) (16) (rn) (rs) := h5
  have hk8 : k ≤ 8 := h3.2.1.1
  obtain ⟨g0, ⟨ga, g1, gk1⟩, ⟨gb, g2, gk2⟩, ⟨gc, g3, gk3⟩, ⟨gd, g4, gk4⟩, ⟨g5x, ge, g5, gk5⟩, ⟨g6x, gf, g6, gk6⟩, gbd, gjs⟩ := id h1
  refine x_iload_n hC d_MessageCoder_formatCode_0 rfl rfl ?_
  refine x_callXS hC hR kY_MessageCoder_placeOf (x_in (x_of (xtb_5 (List.mem_of_getElem? (i := 40) (by decide +kernel)))) (by decide +kernel)) (x_in (x_of (xtb_5 (List.mem_of_getElem? (i := 41) (by decide +kernel)))) (by decide +kernel)) (c_MessageCoder_placeOf (hZx := hZx) (hcb := hcb)) (fun E9 F9 z9 hp9 => ⟨hp9.1, by rw [hp9.2.1]; exact ⟨b0, ⟨s0, h1, h2, ⟨p, m, h3, hms⟩, h4, h5⟩, hv, ⟨pf, hpa, hpf⟩, ⟨_, _, _, _, _, _, p0, hK⟩, hin, hli, ⟨_, _, hbt⟩, hrg, ⟨_, _, htr⟩, ⟨_, hcr⟩, hps⟩, hp9.2.2, by rw [hp9.2.1]; exact hag⟩) (by decide) rfl rfl rfl (Nat.le_of_ble_eq_true rfl) (by decide) d_MessageCoder_formatCode_1 (fun r9 F9 z9 hp9 => ?_)
  obtain ⟨rfl, h9b, h9c, pn0_1⟩ := hp9
  rw [h9b, h9c]
  clear h9b h9c F9 z9
  have hc8 : c - 97 < 8 := by omega
  have hL7 : hLen w (c - 97) ≤ 7 := (gbd _ hc8).2.1
  have hV9 : hVal (hLen w) (c - 97) < 2000 := (gbd _ hc8).2.2.1
  refine x_istore_n hC d_MessageCoder_formatCode_4 rfl (Nat.le_of_ble_eq_true rfl) (L1 := [some (.ref b), some (.int (nI (c))), some (.int (nI (c - 97))), none, none]) rfl ?_
  refine x_aload_n hC d_MessageCoder_formatCode_5 rfl rfl ?_
  refine x_getf hC kf_MessageCoder_12 b0 rfl d_MessageCoder_formatCode_6 ?_
  refine x_getf hC kf_MessageCoder_136 s0 rfl d_MessageCoder_formatCode_9 ?_
  refine x_getf hC kf_MessageCoder_156 g0 rfl d_MessageCoder_formatCode_12 ?_
  refine x_iload_n hC d_MessageCoder_formatCode_15 rfl rfl ?_
  refine x_iald hC g3 (j := c - 97) ⟨rfl, by omega, by omega⟩ (x := nI (hVal (hLen w) (c - 97))) (congrArg nI (gk3 _ hc8)) d_MessageCoder_formatCode_16 ?_
  refine x_istore_n hC d_MessageCoder_formatCode_17 rfl (Nat.le_of_ble_eq_true rfl) (L1 := [some (.ref b), some (.int (nI (c))), some (.int (nI (c - 97))), some (.int (nI (hVal (hLen w) (c - 97)))), none]) rfl ?_
  refine x_aload_n hC d_MessageCoder_formatCode_18 rfl rfl ?_
  refine x_getf hC kf_MessageCoder_35 b0 rfl d_MessageCoder_formatCode_19 ?_
  refine x_callV hC kv_MessageCoder_332 (c_Text_clear (ht := hli)) hli.1 rfl rfl (by decide) rfl rfl rfl (Nat.le_of_ble_eq_true rfl) (by decide) d_MessageCoder_formatCode_22 (fun r9 F9 z9 hp9 => ?_)
  obtain ⟨rfl, h9c, j0, hag9⟩ := hp9
  rw [h9c]
  clear h9c z9
  generalize F9 = F1 at *
  have b0 : F1 (b) = some (.inl (9, [.ref (b + 1), .ref (b + 50), .ref (b + 99), .ref (b + 100), .ref (b + 107), .ref (b + 109), .ref (b + 111), .ref (b + 122), .ref (b + 124), .int (nI (sv)), .int (nI (pp)), .int (nI (un)), .int ep, .int fc])) := (hag9 _ (by omega)).trans b0
  have hv : xSt F1 (b + 50) (S) := xSt_fr hv (fun a9 q1 q2 => hag9 a9 (by omega))
  have hpa : F1 (b + 99) = some (.inr (4, 9, pf)) := (hag9 _ (by omega)).trans hpa
  have p0 : F1 (b + 100) = some (.inl (4, [.ref (b + 101), .ref (b + 103), .ref (b + 104), .ref (b + 105), .ref (b + 106), .int (nI (K.1)), .int (nI (cc)), .int (nI (pa)), .int (nI (f1)), .int (nI (f2)), .int (nI (hf))])) := (hag9 _ (by omega)).trans p0
  have hK : xPk F1 (b + 100) (cm.2.1) (K) := xPk_fr hK (fun a9 q1 q2 => hag9 a9 (by omega))
  have hin : xTx F1 (b + 101) (60) (pn) (psg) := xTx_fr hin (fun a9 q1 q2 => hag9 a9 (by omega))
  have hbt : xBt F1 (b + 109) (nb) (fb9) := xBt_fr hbt (fun a9 q1 q2 => hag9 a9 (by omega))
  have hrg : xRg F1 (b + 111) := xRg_fr hrg (fun a9 q1 q2 => hag9 a9 (by omega))
  have htr : xTx F1 (b + 122) (16) (tn) (tsg) := xTx_fr htr (fun a9 q1 q2 => hag9 a9 (by omega))
  have hcr : F1 (b + 124) = some (.inr (0, 17, fun b9 => .int (nI (cr b9)))) := (hag9 _ (by omega)).trans hcr
  have hps : xPs F1 (b) (past) := xPs_fr hps (fun a9 q1 q2 => hag9 a9 (by omega))
  have s0 : F1 (b + 1) = some (.inl (7, [.ref (b + 2), .ref (b + 9), .ref (b + 11), .ref (b + 37), .ref (b + 48), .int (nI (c1)), .int (nI (c2)), .int (nI (c3)), .int (nI (c4))])) := (hag9 _ (by omega)).trans s0
  have h1 : xCd F1 (b + 2) (w) ((hLen w)) ((hVal (hLen w))) ((hOrd (hLen w))) ((hSum w)) := xCd_fr h1 (fun a9 q1 q2 => hag9 a9 (by omega))
  have h2 : xTx F1 (b + 9) (16) (dn) (ds) := xTx_fr h2 (fun a9 q1 q2 => hag9 a9 (by omega))
  have h3 : xQp F1 (b + 11) (k) (nx) (p) (m) := xQp_fr h3 (fun a9 q1 q2 => hag9 a9 (by omega))
  have h4 : xFr F1 (b + 37) (fk) (fb) (ftn) (fts) (fw) := xFr_fr h4 (fun a9 q1 q2 => hag9 a9 (by omega))
  have h5 : xTx F1 (b + 48) (16) (rn) (rs) := xTx_fr h5 (fun a9 q1 q2 => hag9 a9 (by omega))
  have g0 : F1 (b + 2) = some (.inl (1, [.ref (b + 3), .ref (b + 4), .ref (b + 5), .ref (b + 6), .ref (b + 7), .ref (b + 8), .int (nI (hSum w))])) := (hag9 _ (by omega)).trans g0
  have g1 : F1 (b + 3) = some (.inr (0, 8, fun b9 => .int (nI (ga b9)))) := (hag9 _ (by omega)).trans g1
  have g2 : F1 (b + 4) = some (.inr (0, 8, fun b9 => .int (nI (gb b9)))) := (hag9 _ (by omega)).trans g2
  have g3 : F1 (b + 5) = some (.inr (0, 8, fun b9 => .int (nI (gc b9)))) := (hag9 _ (by omega)).trans g3
  have g4 : F1 (b + 6) = some (.inr (0, 8, fun b9 => .int (nI (gd b9)))) := (hag9 _ (by omega)).trans g4
  have g5 : F1 (b + 7) = some (.inr (0, 8, fun b9 => .int (nI (ge b9)))) := (hag9 _ (by omega)).trans g5
  have g6 : F1 (b + 8) = some (.inr (0, 8, fun b9 => .int (nI (gf b9)))) := (hag9 _ (by omega)).trans g6
  have hli : xTx F1 ((b + 107)) (32) (0) (lsg) := j0
  have hag : ∀ a9 : Nat, (a9 < b ∨ b + 566 ≤ a9) → F1 a9 = F a9 := fun a9 q0 => (hag9 a9 (by omega)).trans (hag a9 q0)
  have hg_22 := hag9
  clear hag9
  refine x_aload_n hC d_MessageCoder_formatCode_25 rfl rfl ?_
  refine x_getf hC kf_MessageCoder_35 b0 rfl d_MessageCoder_formatCode_26 ?_
  refine x_iload_n hC d_MessageCoder_formatCode_29 rfl rfl ?_
  refine x_callV hC kv_MessageCoder_338 (c_Text_add1 (ht := hli) (hlt := by omega) (hc0 := by omega)) hli.1 rfl rfl (by decide) rfl rfl rfl (Nat.le_of_ble_eq_true rfl) (by decide) d_MessageCoder_formatCode_30 (fun r9 F9 z9 hp9 => ?_)
  obtain ⟨rfl, h9c, j0, hag9⟩ := hp9
  rw [h9c]
  clear h9c z9
  generalize F9 = F2 at *
  have b0 : F2 (b) = some (.inl (9, [.ref (b + 1), .ref (b + 50), .ref (b + 99), .ref (b + 100), .ref (b + 107), .ref (b + 109), .ref (b + 111), .ref (b + 122), .ref (b + 124), .int (nI (sv)), .int (nI (pp)), .int (nI (un)), .int ep, .int fc])) := (hag9 _ (by omega)).trans b0
  have hv : xSt F2 (b + 50) (S) := xSt_fr hv (fun a9 q1 q2 => hag9 a9 (by omega))
  have hpa : F2 (b + 99) = some (.inr (4, 9, pf)) := (hag9 _ (by omega)).trans hpa
  have p0 : F2 (b + 100) = some (.inl (4, [.ref (b + 101), .ref (b + 103), .ref (b + 104), .ref (b + 105), .ref (b + 106), .int (nI (K.1)), .int (nI (cc)), .int (nI (pa)), .int (nI (f1)), .int (nI (f2)), .int (nI (hf))])) := (hag9 _ (by omega)).trans p0
  have hK : xPk F2 (b + 100) (cm.2.1) (K) := xPk_fr hK (fun a9 q1 q2 => hag9 a9 (by omega))
  have hin : xTx F2 (b + 101) (60) (pn) (psg) := xTx_fr hin (fun a9 q1 q2 => hag9 a9 (by omega))
  have hbt : xBt F2 (b + 109) (nb) (fb9) := xBt_fr hbt (fun a9 q1 q2 => hag9 a9 (by omega))
  have hrg : xRg F2 (b + 111) := xRg_fr hrg (fun a9 q1 q2 => hag9 a9 (by omega))
  have htr : xTx F2 (b + 122) (16) (tn) (tsg) := xTx_fr htr (fun a9 q1 q2 => hag9 a9 (by omega))
  have hcr : F2 (b + 124) = some (.inr (0, 17, fun b9 => .int (nI (cr b9)))) := (hag9 _ (by omega)).trans hcr
  have hps : xPs F2 (b) (past) := xPs_fr hps (fun a9 q1 q2 => hag9 a9 (by omega))
  have s0 : F2 (b + 1) = some (.inl (7, [.ref (b + 2), .ref (b + 9), .ref (b + 11), .ref (b + 37), .ref (b + 48), .int (nI (c1)), .int (nI (c2)), .int (nI (c3)), .int (nI (c4))])) := (hag9 _ (by omega)).trans s0
  have h1 : xCd F2 (b + 2) (w) ((hLen w)) ((hVal (hLen w))) ((hOrd (hLen w))) ((hSum w)) := xCd_fr h1 (fun a9 q1 q2 => hag9 a9 (by omega))
  have h2 : xTx F2 (b + 9) (16) (dn) (ds) := xTx_fr h2 (fun a9 q1 q2 => hag9 a9 (by omega))
  have h3 : xQp F2 (b + 11) (k) (nx) (p) (m) := xQp_fr h3 (fun a9 q1 q2 => hag9 a9 (by omega))
  have h4 : xFr F2 (b + 37) (fk) (fb) (ftn) (fts) (fw) := xFr_fr h4 (fun a9 q1 q2 => hag9 a9 (by omega))
  have h5 : xTx F2 (b + 48) (16) (rn) (rs) := xTx_fr h5 (fun a9 q1 q2 => hag9 a9 (by omega))
  have g0 : F2 (b + 2) = some (.inl (1, [.ref (b + 3), .ref (b + 4), .ref (b + 5), .ref (b + 6), .ref (b + 7), .ref (b + 8), .int (nI (hSum w))])) := (hag9 _ (by omega)).trans g0
  have g1 : F2 (b + 3) = some (.inr (0, 8, fun b9 => .int (nI (ga b9)))) := (hag9 _ (by omega)).trans g1
  have g2 : F2 (b + 4) = some (.inr (0, 8, fun b9 => .int (nI (gb b9)))) := (hag9 _ (by omega)).trans g2
  have g3 : F2 (b + 5) = some (.inr (0, 8, fun b9 => .int (nI (gc b9)))) := (hag9 _ (by omega)).trans g3
  have g4 : F2 (b + 6) = some (.inr (0, 8, fun b9 => .int (nI (gd b9)))) := (hag9 _ (by omega)).trans g4
  have g5 : F2 (b + 7) = some (.inr (0, 8, fun b9 => .int (nI (ge b9)))) := (hag9 _ (by omega)).trans g5
  have g6 : F2 (b + 8) = some (.inr (0, 8, fun b9 => .int (nI (gf b9)))) := (hag9 _ (by omega)).trans g6
  have hli : xTx F2 ((b + 107)) (32) (0 + 1) (updN lsg 0 c) := j0
  have hag : ∀ a9 : Nat, (a9 < b ∨ b + 566 ≤ a9) → F2 a9 = F a9 := fun a9 q0 => (hag9 a9 (by omega)).trans (hag a9 q0)
  have hg_30 := hag9
  clear hag9
  refine x_pop hC d_MessageCoder_formatCode_33 rfl ?_
  refine x_aload_n hC d_MessageCoder_formatCode_34 rfl rfl ?_
  refine x_getf hC kf_MessageCoder_35 b0 rfl d_MessageCoder_formatCode_35 ?_
  refine x_bipush hC d_MessageCoder_formatCode_38 (v := nI 61) (by decide) ?_
  refine x_callV hC kv_MessageCoder_338 (c_Text_add1 (ht := hli) (hlt := by omega) (hc0 := by omega)) hli.1 rfl rfl (by decide) rfl rfl rfl (Nat.le_of_ble_eq_true rfl) (by decide) d_MessageCoder_formatCode_40 (fun r9 F9 z9 hp9 => ?_)
  obtain ⟨rfl, h9c, j0, hag9⟩ := hp9
  rw [h9c]
  clear h9c z9
  generalize F9 = F3 at *
  have b0 : F3 (b) = some (.inl (9, [.ref (b + 1), .ref (b + 50), .ref (b + 99), .ref (b + 100), .ref (b + 107), .ref (b + 109), .ref (b + 111), .ref (b + 122), .ref (b + 124), .int (nI (sv)), .int (nI (pp)), .int (nI (un)), .int ep, .int fc])) := (hag9 _ (by omega)).trans b0
  have hv : xSt F3 (b + 50) (S) := xSt_fr hv (fun a9 q1 q2 => hag9 a9 (by omega))
  have hpa : F3 (b + 99) = some (.inr (4, 9, pf)) := (hag9 _ (by omega)).trans hpa
  have p0 : F3 (b + 100) = some (.inl (4, [.ref (b + 101), .ref (b + 103), .ref (b + 104), .ref (b + 105), .ref (b + 106), .int (nI (K.1)), .int (nI (cc)), .int (nI (pa)), .int (nI (f1)), .int (nI (f2)), .int (nI (hf))])) := (hag9 _ (by omega)).trans p0
  have hK : xPk F3 (b + 100) (cm.2.1) (K) := xPk_fr hK (fun a9 q1 q2 => hag9 a9 (by omega))
  have hin : xTx F3 (b + 101) (60) (pn) (psg) := xTx_fr hin (fun a9 q1 q2 => hag9 a9 (by omega))
  have hbt : xBt F3 (b + 109) (nb) (fb9) := xBt_fr hbt (fun a9 q1 q2 => hag9 a9 (by omega))
  have hrg : xRg F3 (b + 111) := xRg_fr hrg (fun a9 q1 q2 => hag9 a9 (by omega))
  have htr : xTx F3 (b + 122) (16) (tn) (tsg) := xTx_fr htr (fun a9 q1 q2 => hag9 a9 (by omega))
  have hcr : F3 (b + 124) = some (.inr (0, 17, fun b9 => .int (nI (cr b9)))) := (hag9 _ (by omega)).trans hcr
  have hps : xPs F3 (b) (past) := xPs_fr hps (fun a9 q1 q2 => hag9 a9 (by omega))
  have s0 : F3 (b + 1) = some (.inl (7, [.ref (b + 2), .ref (b + 9), .ref (b + 11), .ref (b + 37), .ref (b + 48), .int (nI (c1)), .int (nI (c2)), .int (nI (c3)), .int (nI (c4))])) := (hag9 _ (by omega)).trans s0
  have h1 : xCd F3 (b + 2) (w) ((hLen w)) ((hVal (hLen w))) ((hOrd (hLen w))) ((hSum w)) := xCd_fr h1 (fun a9 q1 q2 => hag9 a9 (by omega))
  have h2 : xTx F3 (b + 9) (16) (dn) (ds) := xTx_fr h2 (fun a9 q1 q2 => hag9 a9 (by omega))
  have h3 : xQp F3 (b + 11) (k) (nx) (p) (m) := xQp_fr h3 (fun a9 q1 q2 => hag9 a9 (by omega))
  have h4 : xFr F3 (b + 37) (fk) (fb) (ftn) (fts) (fw) := xFr_fr h4 (fun a9 q1 q2 => hag9 a9 (by omega))
  have h5 : xTx F3 (b + 48) (16) (rn) (rs) := xTx_fr h5 (fun a9 q1 q2 => hag9 a9 (by omega))
  have g0 : F3 (b + 2) = some (.inl (1, [.ref (b + 3), .ref (b + 4), .ref (b + 5), .ref (b + 6), .ref (b + 7), .ref (b + 8), .int (nI (hSum w))])) := (hag9 _ (by omega)).trans g0
  have g1 : F3 (b + 3) = some (.inr (0, 8, fun b9 => .int (nI (ga b9)))) := (hag9 _ (by omega)).trans g1
  have g2 : F3 (b + 4) = some (.inr (0, 8, fun b9 => .int (nI (gb b9)))) := (hag9 _ (by omega)).trans g2
  have g3 : F3 (b + 5) = some (.inr (0, 8, fun b9 => .int (nI (gc b9)))) := (hag9 _ (by omega)).trans g3
  have g4 : F3 (b + 6) = some (.inr (0, 8, fun b9 => .int (nI (gd b9)))) := (hag9 _ (by omega)).trans g4
  have g5 : F3 (b + 7) = some (.inr (0, 8, fun b9 => .int (nI (ge b9)))) := (hag9 _ (by omega)).trans g5
  have g6 : F3 (b + 8) = some (.inr (0, 8, fun b9 => .int (nI (gf b9)))) := (hag9 _ (by omega)).trans g6
  have hli : xTx F3 ((b + 107)) (32) (1 + 1) (updN (updN lsg 0 c) 1 61) := j0
  have hag : ∀ a9 : Nat, (a9 < b ∨ b + 566 ≤ a9) → F3 a9 = F a9 := fun a9 q0 => (hag9 a9 (by omega)).trans (hag a9 q0)
  have hg_40 := hag9
  clear hag9
  have hli : xTx F3 (b + 107) (32) (2 + 0) ((fmC c (hLen w (c - 97)) (hVal (hLen w) (c - 97)))) := xTx_ext hli (fun j hj => by
    by_cases e0 : j = 0
    · rw [e0, updN_ne (by omega), updN_eq]; rfl
    · rw [show j = 0 + 1 by omega, updN_eq]; rfl)
  refine x_pop hC d_MessageCoder_formatCode_43 rfl ?_
  refine x_aload_n hC d_MessageCoder_formatCode_44 rfl rfl ?_
  refine x_getf hC kf_MessageCoder_12 b0 rfl d_MessageCoder_formatCode_45 ?_
  refine x_getf hC kf_MessageCoder_136 s0 rfl d_MessageCoder_formatCode_48 ?_
  refine x_getf hC kf_MessageCoder_153 g0 rfl d_MessageCoder_formatCode_51 ?_
  refine x_iload_n hC d_MessageCoder_formatCode_54 rfl rfl ?_
  refine x_iald hC g2 (j := c - 97) ⟨rfl, by omega, by omega⟩ (x := nI (hLen w (c - 97))) (congrArg nI (gk2 _ hc8)) d_MessageCoder_formatCode_55 ?_
  refine x_iconst hC d_MessageCoder_formatCode_56 (v := nI 1) (by decide) ?_
  refine x_isub hC d_MessageCoder_formatCode_57 (v := (nI (hLen w (c - 97)) - nI (0 + 1))) rfl ?_
  refine x_istore hC d_MessageCoder_formatCode_58 (Nat.le_of_ble_eq_true rfl) (L1 := [some (.ref b), some (.int (nI (c))), some (.int (nI (c - 97))), some (.int (nI (hVal (hLen w) (c - 97)))), some (.int (nI (hLen w (c - 97)) - nI (0 + 1)))]) rfl ?_
  have loop_60 : ∀ (m9 : Nat) (Fh60 : xF) (t : Nat), (Fh60 (b) = some (.inl (9, [.ref (b + 1), .ref (b + 50), .ref (b + 99), .ref (b + 100), .ref (b + 107), .ref (b + 109), .ref (b + 111), .ref (b + 122), .ref (b + 124), .int (nI (sv)), .int (nI (pp)), .int (nI (un)), .int ep, .int fc]))) → (xSt Fh60 (b + 50) (S)) → (Fh60 (b + 99) = some (.inr (4, 9, pf))) → (Fh60 (b + 100) = some (.inl (4, [.ref (b + 101), .ref (b + 103), .ref (b + 104), .ref (b + 105), .ref (b + 106), .int (nI (K.1)), .int (nI (cc)), .int (nI (pa)), .int (nI (f1)), .int (nI (f2)), .int (nI (hf))]))) → (xPk Fh60 (b + 100) (cm.2.1) (K)) → (xTx Fh60 (b + 101) (60) (pn) (psg)) → (xTx Fh60 (b + 107) (32) (2 + t) ((fmC c (hLen w (c - 97)) (hVal (hLen w) (c - 97))))) → (xBt Fh60 (b + 109) (nb) (fb9)) → (xRg Fh60 (b + 111)) → (xTx Fh60 (b + 122) (16) (tn) (tsg)) → (Fh60 (b + 124) = some (.inr (0, 17, fun b9 => .int (nI (cr b9))))) → (xPs Fh60 (b) (past)) → (Fh60 (b + 1) = some (.inl (7, [.ref (b + 2), .ref (b + 9), .ref (b + 11), .ref (b + 37), .ref (b + 48), .int (nI (c1)), .int (nI (c2)), .int (nI (c3)), .int (nI (c4))]))) → (xCd Fh60 (b + 2) (w) ((hLen w)) ((hVal (hLen w))) ((hOrd (hLen w))) ((hSum w))) → (xTx Fh60 (b + 9) (16) (dn) (ds)) → (xQp Fh60 (b + 11) (k) (nx) (p) (m)) → (xFr Fh60 (b + 37) (fk) (fb) (ftn) (fts) (fw)) → (xTx Fh60 (b + 48) (16) (rn) (rs)) → (Fh60 (b + 2) = some (.inl (1, [.ref (b + 3), .ref (b + 4), .ref (b + 5), .ref (b + 6), .ref (b + 7), .ref (b + 8), .int (nI (hSum w))]))) → (Fh60 (b + 3) = some (.inr (0, 8, fun b9 => .int (nI (ga b9))))) → (Fh60 (b + 4) = some (.inr (0, 8, fun b9 => .int (nI (gb b9))))) → (Fh60 (b + 5) = some (.inr (0, 8, fun b9 => .int (nI (gc b9))))) → (Fh60 (b + 6) = some (.inr (0, 8, fun b9 => .int (nI (gd b9))))) → (Fh60 (b + 7) = some (.inr (0, 8, fun b9 => .int (nI (ge b9))))) → (Fh60 (b + 8) = some (.inr (0, 8, fun b9 => .int (nI (gf b9))))) → (∀ a9 : Nat, (a9 < b ∨ b + 566 ≤ a9) → Fh60 a9 = F a9) → (t ≤ hLen w (c - 97)) → (hLen w (c - 97) - t < m9) → xX P Θ 60 [some (.ref b), some (.int (nI (c))), some (.int (nI (c - 97))), some (.int (nI (hVal (hLen w) (c - 97)))), some (.int (nI (hLen w (c - 97)) - nI (t + 1)))] [] Fh60 (z) 1 6 := by
    intro m9
    induction m9 with
    | zero => intros; omega
    | succ m9 ih_60 =>
      intro Fh60 t b0 hv hpa p0 hK hin hli hbt hrg htr hcr hps s0 h1 h2 h3 h4 h5 g0 g1 g2 g3 g4 g5 g6 hag ht hm_60
      refine x_iload hC d_MessageCoder_formatCode_60 rfl ?_
      refine x_if_lt hC d_MessageCoder_formatCode_62 (tgt := 96) (by decide) (fun c_62 => ?_) (fun c_62 => ?_)
      · skip
        have ht9 : hLen w (c - 97) ≤ t := by have := (x_sublt (by omega) (by omega)).mp c_62; omega
        have et : t = hLen w (c - 97) := by omega
        subst et
        refine x_aload_n hC d_MessageCoder_formatCode_96 rfl rfl ?_
        refine x_getf hC kf_MessageCoder_35 b0 rfl d_MessageCoder_formatCode_97 ?_
        refine x_getf hC kf_MessageCoder_181 hli.1 rfl d_MessageCoder_formatCode_100 ?_
        exact hret _ _ _ _ _ _ _ d_MessageCoder_formatCode_103 (by decide) (by decide) rfl (⟨rfl, rfl, ⟨b0, ⟨s0, h1, h2, ⟨p, m, h3, hms⟩, h4, h5⟩, hv, ⟨pf, hpa, hpf⟩, ⟨_, _, _, _, _, _, p0, hK⟩, hin, hli, ⟨_, _, hbt⟩, hrg, ⟨_, _, htr⟩, ⟨_, hcr⟩, hps⟩, pn0_1, hag⟩)
      · skip
        have ht8 : ¬ hLen w (c - 97) < t + 1 := fun e => c_62 ((x_sublt (by omega) (by omega)).mpr e)
        refine x_aload_n hC d_MessageCoder_formatCode_65 rfl rfl ?_
        refine x_getf hC kf_MessageCoder_35 b0 rfl d_MessageCoder_formatCode_66 ?_
        refine x_iload_n hC d_MessageCoder_formatCode_69 rfl rfl ?_
        refine x_iload hC d_MessageCoder_formatCode_70 rfl ?_
        refine x_ishr hC d_MessageCoder_formatCode_72 (v := (nI (hVal (hLen w) (c - 97) / 2 ^ (hLen w (c - 97) - (t + 1))))) (by rw [pk_sub (by omega)]; exact x_shrN _ (by omega) (by omega) rfl) ?_
        refine x_iconst hC d_MessageCoder_formatCode_73 (v := nI 1) (by decide) ?_
        refine x_iand hC d_MessageCoder_formatCode_74 (v := (nI (hVal (hLen w) (c - 97) / 2 ^ (hLen w (c - 97) - (t + 1)) % 2))) (x_and1 (Nat.lt_of_le_of_lt (Nat.div_le_self _ _) (by omega))) ?_
        refine x_iconst hC d_MessageCoder_formatCode_75 (v := nI 1) (by decide) ?_
        refine x_icmpN_ne hC d_MessageCoder_formatCode_76 (tgt := 84) (by decide) (by omega) (by omega) (fun c_76 => ?_) (fun c_76 => ?_)
        · skip
          refine x_bipush hC d_MessageCoder_formatCode_84 (v := nI 48) (by decide) ?_
          refine x_callV hC kv_MessageCoder_338 (c_Text_add1 (ht := hli) (hlt := by omega) (hc0 := by omega)) hli.1 rfl rfl (by decide) rfl rfl rfl (Nat.le_of_ble_eq_true rfl) (by decide) d_MessageCoder_formatCode_86 (fun r9 F9 z9 hp9 => ?_)
          obtain ⟨rfl, h9c, j0, hag9⟩ := hp9
          rw [h9c]
          clear h9c z9
          generalize F9 = F4 at *
          have b0 : F4 (b) = some (.inl (9, [.ref (b + 1), .ref (b + 50), .ref (b + 99), .ref (b + 100), .ref (b + 107), .ref (b + 109), .ref (b + 111), .ref (b + 122), .ref (b + 124), .int (nI (sv)), .int (nI (pp)), .int (nI (un)), .int ep, .int fc])) := (hag9 _ (by omega)).trans b0
          have hv : xSt F4 (b + 50) (S) := xSt_fr hv (fun a9 q1 q2 => hag9 a9 (by omega))
          have hpa : F4 (b + 99) = some (.inr (4, 9, pf)) := (hag9 _ (by omega)).trans hpa
          have p0 : F4 (b + 100) = some (.inl (4, [.ref (b + 101), .ref (b + 103), .ref (b + 104), .ref (b + 105), .ref (b + 106), .int (nI (K.1)), .int (nI (cc)), .int (nI (pa)), .int (nI (f1)), .int (nI (f2)), .int (nI (hf))])) := (hag9 _ (by omega)).trans p0
          have hK : xPk F4 (b + 100) (cm.2.1) (K) := xPk_fr hK (fun a9 q1 q2 => hag9 a9 (by omega))
          have hin : xTx F4 (b + 101) (60) (pn) (psg) := xTx_fr hin (fun a9 q1 q2 => hag9 a9 (by omega))
          have hbt : xBt F4 (b + 109) (nb) (fb9) := xBt_fr hbt (fun a9 q1 q2 => hag9 a9 (by omega))
          have hrg : xRg F4 (b + 111) := xRg_fr hrg (fun a9 q1 q2 => hag9 a9 (by omega))
          have htr : xTx F4 (b + 122) (16) (tn) (tsg) := xTx_fr htr (fun a9 q1 q2 => hag9 a9 (by omega))
          have hcr : F4 (b + 124) = some (.inr (0, 17, fun b9 => .int (nI (cr b9)))) := (hag9 _ (by omega)).trans hcr
          have hps : xPs F4 (b) (past) := xPs_fr hps (fun a9 q1 q2 => hag9 a9 (by omega))
          have s0 : F4 (b + 1) = some (.inl (7, [.ref (b + 2), .ref (b + 9), .ref (b + 11), .ref (b + 37), .ref (b + 48), .int (nI (c1)), .int (nI (c2)), .int (nI (c3)), .int (nI (c4))])) := (hag9 _ (by omega)).trans s0
          have h1 : xCd F4 (b + 2) (w) ((hLen w)) ((hVal (hLen w))) ((hOrd (hLen w))) ((hSum w)) := xCd_fr h1 (fun a9 q1 q2 => hag9 a9 (by omega))
          have h2 : xTx F4 (b + 9) (16) (dn) (ds) := xTx_fr h2 (fun a9 q1 q2 => hag9 a9 (by omega))
          have h3 : xQp F4 (b + 11) (k) (nx) (p) (m) := xQp_fr h3 (fun a9 q1 q2 => hag9 a9 (by omega))
          have h4 : xFr F4 (b + 37) (fk) (fb) (ftn) (fts) (fw) := xFr_fr h4 (fun a9 q1 q2 => hag9 a9 (by omega))
          have h5 : xTx F4 (b + 48) (16) (rn) (rs) := xTx_fr h5 (fun a9 q1 q2 => hag9 a9 (by omega))
          have g0 : F4 (b + 2) = some (.inl (1, [.ref (b + 3), .ref (b + 4), .ref (b + 5), .ref (b + 6), .ref (b + 7), .ref (b + 8), .int (nI (hSum w))])) := (hag9 _ (by omega)).trans g0
          have g1 : F4 (b + 3) = some (.inr (0, 8, fun b9 => .int (nI (ga b9)))) := (hag9 _ (by omega)).trans g1
          have g2 : F4 (b + 4) = some (.inr (0, 8, fun b9 => .int (nI (gb b9)))) := (hag9 _ (by omega)).trans g2
          have g3 : F4 (b + 5) = some (.inr (0, 8, fun b9 => .int (nI (gc b9)))) := (hag9 _ (by omega)).trans g3
          have g4 : F4 (b + 6) = some (.inr (0, 8, fun b9 => .int (nI (gd b9)))) := (hag9 _ (by omega)).trans g4
          have g5 : F4 (b + 7) = some (.inr (0, 8, fun b9 => .int (nI (ge b9)))) := (hag9 _ (by omega)).trans g5
          have g6 : F4 (b + 8) = some (.inr (0, 8, fun b9 => .int (nI (gf b9)))) := (hag9 _ (by omega)).trans g6
          have hli : xTx F4 ((b + 107)) (32) ((2 + t) + 1) (updN (fmC c (hLen w (c - 97)) (hVal (hLen w) (c - 97))) (2 + t) 48) := j0
          have hag : ∀ a9 : Nat, (a9 < b ∨ b + 566 ≤ a9) → F4 a9 = F a9 := fun a9 q0 => (hag9 a9 (by omega)).trans (hag a9 q0)
          have hg_86 := hag9
          clear hag9
          refine x_pop hC d_MessageCoder_formatCode_89 rfl ?_
          have hli : xTx F4 (b + 107) (32) (2 + t + 1) ((fmC c (hLen w (c - 97)) (hVal (hLen w) (c - 97)))) := xTx_ext hli (fun j hj => (Nat.lt_or_ge j (2 + t)).elim (fun q => updN_ne (by omega)) (fun q => by rw [show j = 2 + t by omega, updN_eq, fmC_s (by omega), codeB, show 2 + t - 2 = t by omega, show hLen w (c - 97) - 1 - t = hLen w (c - 97) - (t + 1) by omega]; omega))
          refine x_iinc hC d_MessageCoder_formatCode_90 rfl (v := (nI (hLen w (c - 97)) - nI ((t + 1) + 1))) (x_sub1 _ _) (Nat.le_of_ble_eq_true rfl) (L1 := [some (.ref b), some (.int (nI (c))), some (.int (nI (c - 97))), some (.int (nI (hVal (hLen w) (c - 97)))), some (.int (nI (hLen w (c - 97)) - nI ((t + 1) + 1)))]) rfl ?_
          refine x_goto hC d_MessageCoder_formatCode_93 (tgt := 60) (by decide) ?_
          exact ih_60 F4 (t + 1) b0 hv hpa p0 hK hin hli hbt hrg htr hcr hps s0 h1 h2 h3 h4 h5 g0 g1 g2 g3 g4 g5 g6 hag (by omega) (by omega)
        · skip
          refine x_bipush hC d_MessageCoder_formatCode_79 (v := nI 49) (by decide) ?_
          refine x_goto hC d_MessageCoder_formatCode_81 (tgt := 86) (by decide) ?_
          refine x_callV hC kv_MessageCoder_338 (c_Text_add1 (ht := hli) (hlt := by omega) (hc0 := by omega)) hli.1 rfl rfl (by decide) rfl rfl rfl (Nat.le_of_ble_eq_true rfl) (by decide) d_MessageCoder_formatCode_86 (fun r9 F9 z9 hp9 => ?_)
          obtain ⟨rfl, h9c, j0, hag9⟩ := hp9
          rw [h9c]
          clear h9c z9
          generalize F9 = F5 at *
          have b0 : F5 (b) = some (.inl (9, [.ref (b + 1), .ref (b + 50), .ref (b + 99), .ref (b + 100), .ref (b + 107), .ref (b + 109), .ref (b + 111), .ref (b + 122), .ref (b + 124), .int (nI (sv)), .int (nI (pp)), .int (nI (un)), .int ep, .int fc])) := (hag9 _ (by omega)).trans b0
          have hv : xSt F5 (b + 50) (S) := xSt_fr hv (fun a9 q1 q2 => hag9 a9 (by omega))
          have hpa : F5 (b + 99) = some (.inr (4, 9, pf)) := (hag9 _ (by omega)).trans hpa
          have p0 : F5 (b + 100) = some (.inl (4, [.ref (b + 101), .ref (b + 103), .ref (b + 104), .ref (b + 105), .ref (b + 106), .int (nI (K.1)), .int (nI (cc)), .int (nI (pa)), .int (nI (f1)), .int (nI (f2)), .int (nI (hf))])) := (hag9 _ (by omega)).trans p0
          have hK : xPk F5 (b + 100) (cm.2.1) (K) := xPk_fr hK (fun a9 q1 q2 => hag9 a9 (by omega))
          have hin : xTx F5 (b + 101) (60) (pn) (psg) := xTx_fr hin (fun a9 q1 q2 => hag9 a9 (by omega))
          have hbt : xBt F5 (b + 109) (nb) (fb9) := xBt_fr hbt (fun a9 q1 q2 => hag9 a9 (by omega))
          have hrg : xRg F5 (b + 111) := xRg_fr hrg (fun a9 q1 q2 => hag9 a9 (by omega))
          have htr : xTx F5 (b + 122) (16) (tn) (tsg) := xTx_fr htr (fun a9 q1 q2 => hag9 a9 (by omega))
          have hcr : F5 (b + 124) = some (.inr (0, 17, fun b9 => .int (nI (cr b9)))) := (hag9 _ (by omega)).trans hcr
          have hps : xPs F5 (b) (past) := xPs_fr hps (fun a9 q1 q2 => hag9 a9 (by omega))
          have s0 : F5 (b + 1) = some (.inl (7, [.ref (b + 2), .ref (b + 9), .ref (b + 11), .ref (b + 37), .ref (b + 48), .int (nI (c1)), .int (nI (c2)), .int (nI (c3)), .int (nI (c4))])) := (hag9 _ (by omega)).trans s0
          have h1 : xCd F5 (b + 2) (w) ((hLen w)) ((hVal (hLen w))) ((hOrd (hLen w))) ((hSum w)) := xCd_fr h1 (fun a9 q1 q2 => hag9 a9 (by omega))
          have h2 : xTx F5 (b + 9) (16) (dn) (ds) := xTx_fr h2 (fun a9 q1 q2 => hag9 a9 (by omega))
          have h3 : xQp F5 (b + 11) (k) (nx) (p) (m) := xQp_fr h3 (fun a9 q1 q2 => hag9 a9 (by omega))
          have h4 : xFr F5 (b + 37) (fk) (fb) (ftn) (fts) (fw) := xFr_fr h4 (fun a9 q1 q2 => hag9 a9 (by omega))
          have h5 : xTx F5 (b + 48) (16) (rn) (rs) := xTx_fr h5 (fun a9 q1 q2 => hag9 a9 (by omega))
          have g0 : F5 (b + 2) = some (.inl (1, [.ref (b + 3), .ref (b + 4), .ref (b + 5), .ref (b + 6), .ref (b + 7), .ref (b + 8), .int (nI (hSum w))])) := (hag9 _ (by omega)).trans g0
          have g1 : F5 (b + 3) = some (.inr (0, 8, fun b9 => .int (nI (ga b9)))) := (hag9 _ (by omega)).trans g1
          have g2 : F5 (b + 4) = some (.inr (0, 8, fun b9 => .int (nI (gb b9)))) := (hag9 _ (by omega)).trans g2
          have g3 : F5 (b + 5) = some (.inr (0, 8, fun b9 => .int (nI (gc b9)))) := (hag9 _ (by omega)).trans g3
          have g4 : F5 (b + 6) = some (.inr (0, 8, fun b9 => .int (nI (gd b9)))) := (hag9 _ (by omega)).trans g4
          have g5 : F5 (b + 7) = some (.inr (0, 8, fun b9 => .int (nI (ge b9)))) := (hag9 _ (by omega)).trans g5
          have g6 : F5 (b + 8) = some (.inr (0, 8, fun b9 => .int (nI (gf b9)))) := (hag9 _ (by omega)).trans g6
          have hli : xTx F5 ((b + 107)) (32) ((2 + t) + 1) (updN (fmC c (hLen w (c - 97)) (hVal (hLen w) (c - 97))) (2 + t) 49) := j0
          have hag : ∀ a9 : Nat, (a9 < b ∨ b + 566 ≤ a9) → F5 a9 = F a9 := fun a9 q0 => (hag9 a9 (by omega)).trans (hag a9 q0)
          have hg_86 := hag9
          clear hag9
          refine x_pop hC d_MessageCoder_formatCode_89 rfl ?_
          have hli : xTx F5 (b + 107) (32) (2 + t + 1) ((fmC c (hLen w (c - 97)) (hVal (hLen w) (c - 97)))) := xTx_ext hli (fun j hj => (Nat.lt_or_ge j (2 + t)).elim (fun q => updN_ne (by omega)) (fun q => by rw [show j = 2 + t by omega, updN_eq, fmC_s (by omega), codeB, show 2 + t - 2 = t by omega, show hLen w (c - 97) - 1 - t = hLen w (c - 97) - (t + 1) by omega]; omega))
          refine x_iinc hC d_MessageCoder_formatCode_90 rfl (v := (nI (hLen w (c - 97)) - nI ((t + 1) + 1))) (x_sub1 _ _) (Nat.le_of_ble_eq_true rfl) (L1 := [some (.ref b), some (.int (nI (c))), some (.int (nI (c - 97))), some (.int (nI (hVal (hLen w) (c - 97)))), some (.int (nI (hLen w (c - 97)) - nI ((t + 1) + 1)))]) rfl ?_
          refine x_goto hC d_MessageCoder_formatCode_93 (tgt := 60) (by decide) ?_
          exact ih_60 F5 (t + 1) b0 hv hpa p0 hK hin hli hbt hrg htr hcr hps s0 h1 h2 h3 h4 h5 g0 g1 g2 g3 g4 g5 g6 hag (by omega) (by omega)
  exact loop_60 (hLen w (c - 97) - 0 + 1) F3 (0) b0 hv hpa p0 hK hin hli hbt hrg htr hcr hps s0 h1 h2 h3 h4 h5 g0 g1 g2 g3 g4 g5 g6 hag (by omega) (by omega)

theorem d_MessageCoder_append_0 : decode prog_1_method_56_code 0 = .ok (.iload_n 1, 1) := by decide +kernel
theorem d_MessageCoder_append_1 : decode prog_1_method_56_code 1 = .ok (.bipush 32, 2) := by decide +kernel
theorem d_MessageCoder_append_3 : decode prog_1_method_56_code 3 = .ok (.if_icmp .lt 9, 3) := by decide +kernel
theorem d_MessageCoder_append_6 : decode prog_1_method_56_code 6 = .ok (.iload_n 1, 1) := by decide +kernel
theorem d_MessageCoder_append_7 : decode prog_1_method_56_code 7 = .ok (.bipush 126, 2) := by decide +kernel
theorem d_MessageCoder_append_9 : decode prog_1_method_56_code 9 = .ok (.if_icmp .le 14, 3) := by decide +kernel
theorem d_MessageCoder_append_12 : decode prog_1_method_56_code 12 = .ok (.new 77, 3) := by decide +kernel
theorem d_MessageCoder_append_15 : decode prog_1_method_56_code 15 = .ok (.dup, 1) := by decide +kernel
theorem d_MessageCoder_append_16 : decode prog_1_method_56_code 16 = .ok (.ldc_w 344, 3) := by decide +kernel
theorem d_MessageCoder_append_19 : decode prog_1_method_56_code 19 = .ok (.invokespecial 81, 3) := by decide +kernel
theorem d_MessageCoder_append_22 : decode prog_1_method_56_code 22 = .ok (.athrow, 1) := by decide +kernel
theorem d_MessageCoder_append_23 : decode prog_1_method_56_code 23 = .ok (.aload_n 0, 1) := by decide +kernel
theorem d_MessageCoder_append_24 : decode prog_1_method_56_code 24 = .ok (.getfield 26, 3) := by decide +kernel
theorem d_MessageCoder_append_27 : decode prog_1_method_56_code 27 = .ok (.getfield 346, 3) := by decide +kernel
theorem d_MessageCoder_append_30 : decode prog_1_method_56_code 30 = .ok (.iload_n 1, 1) := by decide +kernel
theorem d_MessageCoder_append_31 : decode prog_1_method_56_code 31 = .ok (.invokevirtual 338, 3) := by decide +kernel
theorem d_MessageCoder_append_34 : decode prog_1_method_56_code 34 = .ok (.ifCond .ne 14, 3) := by decide +kernel
theorem d_MessageCoder_append_37 : decode prog_1_method_56_code 37 = .ok (.new 89, 3) := by decide +kernel
theorem d_MessageCoder_append_40 : decode prog_1_method_56_code 40 = .ok (.dup, 1) := by decide +kernel
theorem d_MessageCoder_append_41 : decode prog_1_method_56_code 41 = .ok (.ldc_w 349, 3) := by decide +kernel
theorem d_MessageCoder_append_44 : decode prog_1_method_56_code 44 = .ok (.invokespecial 93, 3) := by decide +kernel
theorem d_MessageCoder_append_47 : decode prog_1_method_56_code 47 = .ok (.athrow, 1) := by decide +kernel
theorem d_MessageCoder_append_48 : decode prog_1_method_56_code 48 = .ok (.aload_n 0, 1) := by decide +kernel
theorem d_MessageCoder_append_49 : decode prog_1_method_56_code 49 = .ok (.getfield 26, 3) := by decide +kernel
theorem d_MessageCoder_append_52 : decode prog_1_method_56_code 52 = .ok (.getfield 346, 3) := by decide +kernel
theorem d_MessageCoder_append_55 : decode prog_1_method_56_code 55 = .ok (.getfield 181, 3) := by decide +kernel
theorem d_MessageCoder_append_58 : decode prog_1_method_56_code 58 = .ok (.ireturn, 1) := by decide +kernel
set_option maxHeartbeats 4000000 in
set_option maxRecDepth 20000 in
theorem c_MessageCoder_append {P : xP} {F : xF} {z : Nat} {b : Nat} {cm : cmT} {M : mcS} {c : Nat} (hM : xMC F (cm) (b) (M)) (hZx : xZx P) (hcb : c < 65536) : xMx P xy_MessageCoder_append [.ref b, .int (nI (c))] F (z) 1 6 (fun r9 F9 z9 => r9 = some (.int (nI (M.2.2.2.1.1 + 1))) ∧ z9 = z ∧ xMC F9 (cm) (b) ((setI M (M.2.2.2.1.1 + 1) (updN M.2.2.2.1.2 M.2.2.2.1.1 c))) ∧ (32 ≤ c ∧ c ≤ 126) ∧ (M.2.2.2.1.1 < 60) ∧ (∀ a9 : Nat, (a9 < b ∨ b + 566 ≤ a9) → F9 a9 = F a9)) (fun E9 F9 z9 => (E9 = "java/lang/IllegalArgumentException" ∧ xMC F9 (cm) (b) (M) ∧ (¬ (32 ≤ c ∧ c ≤ 126)) ∧ (∀ a9 : Nat, (a9 < b ∨ b + 566 ≤ a9) → F9 a9 = F a9)) ∨ (E9 = "java/lang/IllegalStateException" ∧ xMC F9 (cm) (b) (M) ∧ ((32 ≤ c ∧ c ≤ 126) ∧ ¬ M.2.2.2.1.1 < 60) ∧ (∀ a9 : Nat, (a9 < b ∨ b + 566 ≤ a9) → F9 a9 = F a9))) := by
  refine xMx_i .int rfl (Nat.le_of_ble_eq_true rfl) (L0 := [some (.ref b), some (.int (nI (c)))]) rfl rfl fun Θ hC hR hret => ?_
  have hag : ∀ a9 : Nat, (a9 < b ∨ b + 566 ≤ a9) → F a9 = F a9 := fun a9 _ => rfl
  obtain ⟨A, S, past, ⟨pn, psg⟩, ⟨lnn, lsg⟩, sv, pp, un, ep, fc⟩ := M
  obtain ⟨b0, hs, hv, ⟨pf, hpa, hpf⟩, ⟨cc, pa, f1, f2, hf, K, p0, hK⟩, hin, hli, ⟨nb, fb9, hbt⟩, hrg, ⟨tn, tsg, htr⟩, ⟨cr, hcr⟩, hps⟩ := id hM
  have b0 : F (b) = some (.inl (9, [.ref (b + 1), .ref (b + 50), .ref (b + 99), .ref (b + 100), .ref (b + 107), .ref (b + 109), .ref (b + 111), .ref (b + 122), .ref (b + 124), .int (nI (sv)), .int (nI (pp)), .int (nI (un)), .int ep, .int fc])) := b0
  have hs : xSt F (b + 1) (A) := hs
  have hv : xSt F (b + 50) (S) := hv
  have hpa : F (b + 99) = some (.inr (4, 9, pf)) := hpa
  have p0 : F (b + 100) = some (.inl (4, [.ref (b + 101), .ref (b + 103), .ref (b + 104), .ref (b + 105), .ref (b + 106), .int (nI (K.1)), .int (nI (cc)), .int (nI (pa)), .int (nI (f1)), .int (nI (f2)), .int (nI (hf))])) := p0
  have hK : xPk F (b + 100) (cm.2.1) (K) := hK
  have hin : xTx F (b + 101) (60) (pn) (psg) := hin
  have hli : xTx F (b + 107) (32) (lnn) (lsg) := hli
  have hbt : xBt F (b + 109) (nb) (fb9) := hbt
  have hrg : xRg F (b + 111) := hrg
  have htr : xTx F (b + 122) (16) (tn) (tsg) := htr
  have hcr : F (b + 124) = some (.inr (0, 17, fun b9 => .int (nI (cr b9)))) := hcr
  have hps : xPs F (b) (past) := hps
  refine x_iload_n hC d_MessageCoder_append_0 rfl rfl ?_
  refine x_bipush hC d_MessageCoder_append_1 (v := nI 32) (by decide) ?_
  refine x_icmpN_lt hC d_MessageCoder_append_3 (tgt := 12) (by decide) (by omega) (by omega) (fun c_3 => ?_) (fun c_3 => ?_)
  · skip
    refine x_thrW hC hR hZx (xtw2_IllegalArgumentException _ _ xsr_344) rfl (Nat.le_of_ble_eq_true rfl) (by decide) (by decide) d_MessageCoder_append_12 d_MessageCoder_append_15 d_MessageCoder_append_16 d_MessageCoder_append_19 d_MessageCoder_append_22 (fun z9 hz9 => ?_)
    exact Or.inl ⟨rfl, ⟨b0, hs, hv, ⟨pf, hpa, hpf⟩, ⟨_, _, _, _, _, _, p0, hK⟩, hin, hli, ⟨_, _, hbt⟩, hrg, ⟨_, _, htr⟩, ⟨_, hcr⟩, hps⟩, (by omega), hag⟩
  · skip
    refine x_iload_n hC d_MessageCoder_append_6 rfl rfl ?_
    refine x_bipush hC d_MessageCoder_append_7 (v := nI 126) (by decide) ?_
    refine x_icmpN_le hC d_MessageCoder_append_9 (tgt := 23) (by decide) (by omega) (by omega) (fun c_9 => ?_) (fun c_9 => ?_)
    · skip
      refine x_aload_n hC d_MessageCoder_append_23 rfl rfl ?_
      refine x_getf hC kf_MessageCoder_26 b0 rfl d_MessageCoder_append_24 ?_
      refine x_getf hC kf_MessageCoder_346 p0 rfl d_MessageCoder_append_27 ?_
      refine x_iload_n hC d_MessageCoder_append_30 rfl rfl ?_
      refine x_callV hC kv_MessageCoder_338 (c_Text_add (ht := hin) (hc0 := by omega)) hin.1 rfl rfl (by decide) rfl rfl rfl (Nat.le_of_ble_eq_true rfl) (by decide) d_MessageCoder_append_31 (fun r9 F9 z9 hp9 => ?_)
      obtain ⟨n1_31, s1_31, rfl, h9c, j0, pk_31, hag9⟩ := hp9
      rw [h9c]
      clear h9c z9
      generalize F9 = F1 at *
      have b0 : F1 (b) = some (.inl (9, [.ref (b + 1), .ref (b + 50), .ref (b + 99), .ref (b + 100), .ref (b + 107), .ref (b + 109), .ref (b + 111), .ref (b + 122), .ref (b + 124), .int (nI (sv)), .int (nI (pp)), .int (nI (un)), .int ep, .int fc])) := (hag9 _ (by omega)).trans b0
      have hs : xSt F1 (b + 1) (A) := xSt_fr hs (fun a9 q1 q2 => hag9 a9 (by omega))
      have hv : xSt F1 (b + 50) (S) := xSt_fr hv (fun a9 q1 q2 => hag9 a9 (by omega))
      have hpa : F1 (b + 99) = some (.inr (4, 9, pf)) := (hag9 _ (by omega)).trans hpa
      have p0 : F1 (b + 100) = some (.inl (4, [.ref (b + 101), .ref (b + 103), .ref (b + 104), .ref (b + 105), .ref (b + 106), .int (nI (K.1)), .int (nI (cc)), .int (nI (pa)), .int (nI (f1)), .int (nI (f2)), .int (nI (hf))])) := (hag9 _ (by omega)).trans p0
      have hK : xPk F1 (b + 100) (cm.2.1) (K) := xPk_fr hK (fun a9 q1 q2 => hag9 a9 (by omega))
      have hli : xTx F1 (b + 107) (32) (lnn) (lsg) := xTx_fr hli (fun a9 q1 q2 => hag9 a9 (by omega))
      have hbt : xBt F1 (b + 109) (nb) (fb9) := xBt_fr hbt (fun a9 q1 q2 => hag9 a9 (by omega))
      have hrg : xRg F1 (b + 111) := xRg_fr hrg (fun a9 q1 q2 => hag9 a9 (by omega))
      have htr : xTx F1 (b + 122) (16) (tn) (tsg) := xTx_fr htr (fun a9 q1 q2 => hag9 a9 (by omega))
      have hcr : F1 (b + 124) = some (.inr (0, 17, fun b9 => .int (nI (cr b9)))) := (hag9 _ (by omega)).trans hcr
      have hps : xPs F1 (b) (past) := xPs_fr hps (fun a9 q1 q2 => hag9 a9 (by omega))
      have hin : xTx F1 ((b + 101)) (60) (n1_31) (s1_31) := j0
      have hag : ∀ a9 : Nat, (a9 < b ∨ b + 566 ≤ a9) → F1 a9 = F a9 := fun a9 q0 => (hag9 a9 (by omega)).trans (hag a9 q0)
      have hg_31 := hag9
      clear hag9
      refine x_ifB_ne hC d_MessageCoder_append_34 (tgt := 48) (by decide) (fun c_34 => ?_) (fun c_34 => ?_)
      · skip
        refine x_aload_n hC d_MessageCoder_append_48 rfl rfl ?_
        refine x_getf hC kf_MessageCoder_26 b0 rfl d_MessageCoder_append_49 ?_
        refine x_getf hC kf_MessageCoder_346 p0 rfl d_MessageCoder_append_52 ?_
        refine x_getf hC kf_MessageCoder_181 hin.1 rfl d_MessageCoder_append_55 ?_
        refine hret _ _ _ _ _ _ _ d_MessageCoder_append_58 (by decide) (by decide) rfl ?_
        obtain ⟨ea9, eb9⟩ := pk_31.1 c_34
        rw [ea9, eb9] at hin
        exact ⟨congrArg (fun q => some (Value.int (nI q))) (ea9), rfl, ⟨b0, hs, hv, ⟨pf, hpa, hpf⟩, ⟨_, _, _, _, _, _, p0, hK⟩, hin, hli, ⟨_, _, hbt⟩, hrg, ⟨_, _, htr⟩, ⟨_, hcr⟩, hps⟩, (by omega), c_34, hag⟩
      · skip
        refine x_thrW hC hR hZx (xtw2_IllegalStateException _ _ xsr_349) rfl (Nat.le_of_ble_eq_true rfl) (by decide) (by decide) d_MessageCoder_append_37 d_MessageCoder_append_40 d_MessageCoder_append_41 d_MessageCoder_append_44 d_MessageCoder_append_47 (fun z9 hz9 => ?_)
        obtain ⟨ea9, eb9⟩ := pk_31.2 c_34
        rw [ea9, eb9] at hin
        exact Or.inr ⟨rfl, ⟨b0, hs, hv, ⟨pf, hpa, hpf⟩, ⟨_, _, _, _, _, _, p0, hK⟩, hin, hli, ⟨_, _, hbt⟩, hrg, ⟨_, _, htr⟩, ⟨_, hcr⟩, hps⟩, ⟨(by omega), c_34⟩, hag⟩
    · skip
      refine x_thrW hC hR hZx (xtw2_IllegalArgumentException _ _ xsr_344) rfl (Nat.le_of_ble_eq_true rfl) (by decide) (by decide) d_MessageCoder_append_12 d_MessageCoder_append_15 d_MessageCoder_append_16 d_MessageCoder_append_19 d_MessageCoder_append_22 (fun z9 hz9 => ?_)
      exact Or.inl ⟨rfl, ⟨b0, hs, hv, ⟨pf, hpa, hpf⟩, ⟨_, _, _, _, _, _, p0, hK⟩, hin, hli, ⟨_, _, hbt⟩, hrg, ⟨_, _, htr⟩, ⟨_, hcr⟩, hps⟩, (by omega), hag⟩

theorem d_MessageCoder_undo_0 : decode prog_1_method_61_code 0 = .ok (.aload_n 0, 1) := by decide +kernel
theorem d_MessageCoder_undo_1 : decode prog_1_method_61_code 1 = .ok (.getfield 368, 3) := by decide +kernel
theorem d_MessageCoder_undo_4 : decode prog_1_method_61_code 4 = .ok (.ifCond .ne 14, 3) := by decide +kernel
theorem d_MessageCoder_undo_7 : decode prog_1_method_61_code 7 = .ok (.new 89, 3) := by decide +kernel
theorem d_MessageCoder_undo_10 : decode prog_1_method_61_code 10 = .ok (.dup, 1) := by decide +kernel
theorem d_MessageCoder_undo_11 : decode prog_1_method_61_code 11 = .ok (.ldc_w 371, 3) := by decide +kernel
theorem d_MessageCoder_undo_14 : decode prog_1_method_61_code 14 = .ok (.invokespecial 93, 3) := by decide +kernel
theorem d_MessageCoder_undo_17 : decode prog_1_method_61_code 17 = .ok (.athrow, 1) := by decide +kernel
theorem d_MessageCoder_undo_18 : decode prog_1_method_61_code 18 = .ok (.aload_n 0, 1) := by decide +kernel
theorem d_MessageCoder_undo_19 : decode prog_1_method_61_code 19 = .ok (.dup, 1) := by decide +kernel
theorem d_MessageCoder_undo_20 : decode prog_1_method_61_code 20 = .ok (.getfield 368, 3) := by decide +kernel
theorem d_MessageCoder_undo_23 : decode prog_1_method_61_code 23 = .ok (.iconst 1, 1) := by decide +kernel
theorem d_MessageCoder_undo_24 : decode prog_1_method_61_code 24 = .ok (.isub, 1) := by decide +kernel
theorem d_MessageCoder_undo_25 : decode prog_1_method_61_code 25 = .ok (.putfield 368, 3) := by decide +kernel
theorem d_MessageCoder_undo_28 : decode prog_1_method_61_code 28 = .ok (.aload_n 0, 1) := by decide +kernel
theorem d_MessageCoder_undo_29 : decode prog_1_method_61_code 29 = .ok (.dup, 1) := by decide +kernel
theorem d_MessageCoder_undo_30 : decode prog_1_method_61_code 30 = .ok (.getfield 373, 3) := by decide +kernel
theorem d_MessageCoder_undo_33 : decode prog_1_method_61_code 33 = .ok (.iconst 1, 1) := by decide +kernel
theorem d_MessageCoder_undo_34 : decode prog_1_method_61_code 34 = .ok (.isub, 1) := by decide +kernel
theorem d_MessageCoder_undo_35 : decode prog_1_method_61_code 35 = .ok (.putfield 373, 3) := by decide +kernel
theorem d_MessageCoder_undo_38 : decode prog_1_method_61_code 38 = .ok (.aload_n 0, 1) := by decide +kernel
theorem d_MessageCoder_undo_39 : decode prog_1_method_61_code 39 = .ok (.invokevirtual 376, 3) := by decide +kernel
theorem d_MessageCoder_undo_42 : decode prog_1_method_61_code 42 = .ok (.aload_n 0, 1) := by decide +kernel
theorem d_MessageCoder_undo_43 : decode prog_1_method_61_code 43 = .ok (.getfield 368, 3) := by decide +kernel
theorem d_MessageCoder_undo_46 : decode prog_1_method_61_code 46 = .ok (.ireturn, 1) := by decide +kernel
set_option maxHeartbeats 4000000 in
set_option maxRecDepth 20000 in
theorem c_MessageCoder_undo {P : xP} {F : xF} {z : Nat} {b : Nat} {cm : cmT} {M : mcS} (hM : xMC F (cm) (b) (M)) (hZx : xZx P) (hpp0 : M.2.2.2.2.2.2.1 < 100000) (hun0 : M.2.2.2.2.2.2.2.1 < 100000) (hup0 : M.2.2.2.2.2.2.2.1 ≤ M.2.2.2.2.2.2.1) : xMx P xy_MessageCoder_undo [.ref b] F (z) 1 6 (fun r9 F9 z9 => r9 = some (.int (nI (M.2.2.2.2.2.2.2.1 - 1))) ∧ z9 = z ∧ xMC F9 (cm) (b) ((undM M)) ∧ (0 < M.2.2.2.2.2.2.2.1) ∧ (∀ a9 : Nat, (a9 < b ∨ b + 566 ≤ a9) → F9 a9 = F a9)) (fun E9 F9 z9 => (E9 = "java/lang/IllegalStateException" ∧ xMC F9 (cm) (b) (M) ∧ (M.2.2.2.2.2.2.2.1 = 0) ∧ (∀ a9 : Nat, (a9 < b ∨ b + 566 ≤ a9) → F9 a9 = F a9))) := by
  refine xMx_i .int rfl (Nat.le_of_ble_eq_true rfl) (L0 := [some (.ref b)]) rfl rfl fun Θ hC hR hret => ?_
  have hag : ∀ a9 : Nat, (a9 < b ∨ b + 566 ≤ a9) → F a9 = F a9 := fun a9 _ => rfl
  obtain ⟨A, S, past, ⟨pn, psg⟩, ⟨lnn, lsg⟩, sv, pp, un, ep, fc⟩ := M
  obtain ⟨b0, hs, hv, ⟨pf, hpa, hpf⟩, ⟨cc, pa, f1, f2, hf, K, p0, hK⟩, hin, hli, ⟨nb, fb9, hbt⟩, hrg, ⟨tn, tsg, htr⟩, ⟨cr, hcr⟩, hps⟩ := id hM
  have b0 : F (b) = some (.inl (9, [.ref (b + 1), .ref (b + 50), .ref (b + 99), .ref (b + 100), .ref (b + 107), .ref (b + 109), .ref (b + 111), .ref (b + 122), .ref (b + 124), .int (nI (sv)), .int (nI (pp)), .int (nI (un)), .int ep, .int fc])) := b0
  have hs : xSt F (b + 1) (A) := hs
  have hv : xSt F (b + 50) (S) := hv
  have hpa : F (b + 99) = some (.inr (4, 9, pf)) := hpa
  have p0 : F (b + 100) = some (.inl (4, [.ref (b + 101), .ref (b + 103), .ref (b + 104), .ref (b + 105), .ref (b + 106), .int (nI (K.1)), .int (nI (cc)), .int (nI (pa)), .int (nI (f1)), .int (nI (f2)), .int (nI (hf))])) := p0
  have hK : xPk F (b + 100) (cm.2.1) (K) := hK
  have hin : xTx F (b + 101) (60) (pn) (psg) := hin
  have hli : xTx F (b + 107) (32) (lnn) (lsg) := hli
  have hbt : xBt F (b + 109) (nb) (fb9) := hbt
  have hrg : xRg F (b + 111) := hrg
  have htr : xTx F (b + 122) (16) (tn) (tsg) := htr
  have hcr : F (b + 124) = some (.inr (0, 17, fun b9 => .int (nI (cr b9)))) := hcr
  have hps : xPs F (b) (past) := hps
  have hpp : pp < 100000 := hpp0
  have hun : un < 100000 := hun0
  have hup : un ≤ pp := hup0
  refine x_aload_n hC d_MessageCoder_undo_0 rfl rfl ?_
  refine x_getf hC kf_MessageCoder_368 b0 rfl d_MessageCoder_undo_1 ?_
  refine x_ifN_ne hC d_MessageCoder_undo_4 (tgt := 18) (by decide) (by omega) (fun c_4 => ?_) (fun c_4 => ?_)
  · skip
    refine x_aload_n hC d_MessageCoder_undo_18 rfl rfl ?_
    refine x_dup hC d_MessageCoder_undo_19 rfl ?_
    refine x_getf hC kf_MessageCoder_368 b0 rfl d_MessageCoder_undo_20 ?_
    refine x_iconst hC d_MessageCoder_undo_23 (v := nI 1) (by decide) ?_
    refine x_isub hC d_MessageCoder_undo_24 (v := (nI ((un) - 1))) (pk_sub (by omega)) ?_
    refine x_putf hC kf_MessageCoder_368 b0 (Nat.le_of_ble_eq_true rfl) rfl rfl d_MessageCoder_undo_25 (fs1 := [.ref (b + 1), .ref (b + 50), .ref (b + 99), .ref (b + 100), .ref (b + 107), .ref (b + 109), .ref (b + 111), .ref (b + 122), .ref (b + 124), .int (nI (sv)), .int (nI (pp)), .int (nI ((un) - 1)), .int ep, .int fc]) rfl ?_
    generalize e1 : xup F (b) (.inl (9, [.ref (b + 1), .ref (b + 50), .ref (b + 99), .ref (b + 100), .ref (b + 107), .ref (b + 109), .ref (b + 111), .ref (b + 122), .ref (b + 124), .int (nI (sv)), .int (nI (pp)), .int (nI ((un) - 1)), .int ep, .int fc])) = F1
    have b0 : F1 (b) = some (.inl (9, [.ref (b + 1), .ref (b + 50), .ref (b + 99), .ref (b + 100), .ref (b + 107), .ref (b + 109), .ref (b + 111), .ref (b + 122), .ref (b + 124), .int (nI (sv)), .int (nI (pp)), .int (nI ((un) - 1)), .int ep, .int fc])) := by rw [← e1]; exact xup_eq
    have hs : xSt F1 (b + 1) (A) := xSt_fr hs (fun a9 q1 q2 => by rw [← e1]; exact xup_ne (by omega))
    have hv : xSt F1 (b + 50) (S) := xSt_fr hv (fun a9 q1 q2 => by rw [← e1]; exact xup_ne (by omega))
    have hpa : F1 (b + 99) = some (.inr (4, 9, pf)) := by rw [← e1]; exact (xup_ne (by omega)).trans hpa
    have p0 : F1 (b + 100) = some (.inl (4, [.ref (b + 101), .ref (b + 103), .ref (b + 104), .ref (b + 105), .ref (b + 106), .int (nI (K.1)), .int (nI (cc)), .int (nI (pa)), .int (nI (f1)), .int (nI (f2)), .int (nI (hf))])) := by rw [← e1]; exact (xup_ne (by omega)).trans p0
    have hK : xPk F1 (b + 100) (cm.2.1) (K) := xPk_fr hK (fun a9 q1 q2 => by rw [← e1]; exact xup_ne (by omega))
    have hin : xTx F1 (b + 101) (60) (pn) (psg) := xTx_fr hin (fun a9 q1 q2 => by rw [← e1]; exact xup_ne (by omega))
    have hli : xTx F1 (b + 107) (32) (lnn) (lsg) := xTx_fr hli (fun a9 q1 q2 => by rw [← e1]; exact xup_ne (by omega))
    have hbt : xBt F1 (b + 109) (nb) (fb9) := xBt_fr hbt (fun a9 q1 q2 => by rw [← e1]; exact xup_ne (by omega))
    have hrg : xRg F1 (b + 111) := xRg_fr hrg (fun a9 q1 q2 => by rw [← e1]; exact xup_ne (by omega))
    have htr : xTx F1 (b + 122) (16) (tn) (tsg) := xTx_fr htr (fun a9 q1 q2 => by rw [← e1]; exact xup_ne (by omega))
    have hcr : F1 (b + 124) = some (.inr (0, 17, fun b9 => .int (nI (cr b9)))) := by rw [← e1]; exact (xup_ne (by omega)).trans hcr
    have hps : xPs F1 (b) (past) := xPs_fr hps (fun a9 q1 q2 => by rw [← e1]; exact xup_ne (by omega))
    have hag : ∀ a9 : Nat, (a9 < b ∨ b + 566 ≤ a9) → F1 a9 = F a9 := fun a9 q0 => by rw [← e1]; exact (xup_ne (by omega)).trans (hag a9 q0)
    refine x_aload_n hC d_MessageCoder_undo_28 rfl rfl ?_
    refine x_dup hC d_MessageCoder_undo_29 rfl ?_
    refine x_getf hC kf_MessageCoder_373 b0 rfl d_MessageCoder_undo_30 ?_
    refine x_iconst hC d_MessageCoder_undo_33 (v := nI 1) (by decide) ?_
    refine x_isub hC d_MessageCoder_undo_34 (v := (nI ((pp) - 1))) (pk_sub (by omega)) ?_
    refine x_putf hC kf_MessageCoder_373 b0 (Nat.le_of_ble_eq_true rfl) rfl rfl d_MessageCoder_undo_35 (fs1 := [.ref (b + 1), .ref (b + 50), .ref (b + 99), .ref (b + 100), .ref (b + 107), .ref (b + 109), .ref (b + 111), .ref (b + 122), .ref (b + 124), .int (nI (sv)), .int (nI ((pp) - 1)), .int (nI ((un) - 1)), .int ep, .int fc]) rfl ?_
    generalize e2 : xup F1 (b) (.inl (9, [.ref (b + 1), .ref (b + 50), .ref (b + 99), .ref (b + 100), .ref (b + 107), .ref (b + 109), .ref (b + 111), .ref (b + 122), .ref (b + 124), .int (nI (sv)), .int (nI ((pp) - 1)), .int (nI ((un) - 1)), .int ep, .int fc])) = F2
    have b0 : F2 (b) = some (.inl (9, [.ref (b + 1), .ref (b + 50), .ref (b + 99), .ref (b + 100), .ref (b + 107), .ref (b + 109), .ref (b + 111), .ref (b + 122), .ref (b + 124), .int (nI (sv)), .int (nI ((pp) - 1)), .int (nI ((un) - 1)), .int ep, .int fc])) := by rw [← e2]; exact xup_eq
    have hs : xSt F2 (b + 1) (A) := xSt_fr hs (fun a9 q1 q2 => by rw [← e2]; exact xup_ne (by omega))
    have hv : xSt F2 (b + 50) (S) := xSt_fr hv (fun a9 q1 q2 => by rw [← e2]; exact xup_ne (by omega))
    have hpa : F2 (b + 99) = some (.inr (4, 9, pf)) := by rw [← e2]; exact (xup_ne (by omega)).trans hpa
    have p0 : F2 (b + 100) = some (.inl (4, [.ref (b + 101), .ref (b + 103), .ref (b + 104), .ref (b + 105), .ref (b + 106), .int (nI (K.1)), .int (nI (cc)), .int (nI (pa)), .int (nI (f1)), .int (nI (f2)), .int (nI (hf))])) := by rw [← e2]; exact (xup_ne (by omega)).trans p0
    have hK : xPk F2 (b + 100) (cm.2.1) (K) := xPk_fr hK (fun a9 q1 q2 => by rw [← e2]; exact xup_ne (by omega))
    have hin : xTx F2 (b + 101) (60) (pn) (psg) := xTx_fr hin (fun a9 q1 q2 => by rw [← e2]; exact xup_ne (by omega))
    have hli : xTx F2 (b + 107) (32) (lnn) (lsg) := xTx_fr hli (fun a9 q1 q2 => by rw [← e2]; exact xup_ne (by omega))
    have hbt : xBt F2 (b + 109) (nb) (fb9) := xBt_fr hbt (fun a9 q1 q2 => by rw [← e2]; exact xup_ne (by omega))
    have hrg : xRg F2 (b + 111) := xRg_fr hrg (fun a9 q1 q2 => by rw [← e2]; exact xup_ne (by omega))
    have htr : xTx F2 (b + 122) (16) (tn) (tsg) := xTx_fr htr (fun a9 q1 q2 => by rw [← e2]; exact xup_ne (by omega))
    have hcr : F2 (b + 124) = some (.inr (0, 17, fun b9 => .int (nI (cr b9)))) := by rw [← e2]; exact (xup_ne (by omega)).trans hcr
    have hps : xPs F2 (b) (past) := xPs_fr hps (fun a9 q1 q2 => by rw [← e2]; exact xup_ne (by omega))
    have hag : ∀ a9 : Nat, (a9 < b ∨ b + 566 ≤ a9) → F2 a9 = F a9 := fun a9 q0 => by rw [← e2]; exact (xup_ne (by omega)).trans (hag a9 q0)
    refine x_aload_n hC d_MessageCoder_undo_38 rfl rfl ?_
    refine x_callV hC kv_MessageCoder_376 (c_MessageCoder_putBackBefore (b0 := b0) (hpa := hpa) (hs := hs) (hps := hps) (hpf := hpf) (hpp := by omega)) b0 rfl rfl (by decide) rfl rfl rfl (Nat.le_of_ble_eq_true rfl) (by decide) d_MessageCoder_undo_39 (fun r9 F9 z9 hp9 => ?_)
    obtain ⟨rfl, h9c, j0, hag9⟩ := hp9
    rw [h9c]
    clear h9c z9
    generalize F9 = F3 at *
    have b0 : F3 (b) = some (.inl (9, [.ref (b + 1), .ref (b + 50), .ref (b + 99), .ref (b + 100), .ref (b + 107), .ref (b + 109), .ref (b + 111), .ref (b + 122), .ref (b + 124), .int (nI (sv)), .int (nI ((pp) - 1)), .int (nI ((un) - 1)), .int ep, .int fc])) := (hag9 _ (by omega)).trans b0
    have hv : xSt F3 (b + 50) (S) := xSt_fr hv (fun a9 q1 q2 => hag9 a9 (by omega))
    have hpa : F3 (b + 99) = some (.inr (4, 9, pf)) := (hag9 _ (by omega)).trans hpa
    have p0 : F3 (b + 100) = some (.inl (4, [.ref (b + 101), .ref (b + 103), .ref (b + 104), .ref (b + 105), .ref (b + 106), .int (nI (K.1)), .int (nI (cc)), .int (nI (pa)), .int (nI (f1)), .int (nI (f2)), .int (nI (hf))])) := (hag9 _ (by omega)).trans p0
    have hK : xPk F3 (b + 100) (cm.2.1) (K) := xPk_fr hK (fun a9 q1 q2 => hag9 a9 (by omega))
    have hin : xTx F3 (b + 101) (60) (pn) (psg) := xTx_fr hin (fun a9 q1 q2 => hag9 a9 (by omega))
    have hli : xTx F3 (b + 107) (32) (lnn) (lsg) := xTx_fr hli (fun a9 q1 q2 => hag9 a9 (by omega))
    have hbt : xBt F3 (b + 109) (nb) (fb9) := xBt_fr hbt (fun a9 q1 q2 => hag9 a9 (by omega))
    have hrg : xRg F3 (b + 111) := xRg_fr hrg (fun a9 q1 q2 => hag9 a9 (by omega))
    have htr : xTx F3 (b + 122) (16) (tn) (tsg) := xTx_fr htr (fun a9 q1 q2 => hag9 a9 (by omega))
    have hcr : F3 (b + 124) = some (.inr (0, 17, fun b9 => .int (nI (cr b9)))) := (hag9 _ (by omega)).trans hcr
    have hps : xPs F3 (b) (past) := xPs_fr hps (fun a9 q1 q2 => hag9 a9 (by omega))
    have hs : xSt F3 (b + 1) ((past (((pp) - 1) % 9))) := j0
    have hag : ∀ a9 : Nat, (a9 < b ∨ b + 566 ≤ a9) → F3 a9 = F a9 := fun a9 q0 => (hag9 a9 (by omega)).trans (hag a9 q0)
    have hg_39 := hag9
    clear hag9
    refine x_aload_n hC d_MessageCoder_undo_42 rfl rfl ?_
    refine x_getf hC kf_MessageCoder_368 b0 rfl d_MessageCoder_undo_43 ?_
    exact hret _ _ _ _ _ _ _ d_MessageCoder_undo_46 (by decide) (by decide) rfl (⟨rfl, rfl, ⟨b0, hs, hv, ⟨pf, hpa, hpf⟩, ⟨_, _, _, _, _, _, p0, hK⟩, hin, hli, ⟨_, _, hbt⟩, hrg, ⟨_, _, htr⟩, ⟨_, hcr⟩, hps⟩, c_4, hag⟩)
  · skip
    refine x_thrW hC hR hZx (xtw2_IllegalStateException _ _ xsr_371) rfl (Nat.le_of_ble_eq_true rfl) (by decide) (by decide) d_MessageCoder_undo_7 d_MessageCoder_undo_10 d_MessageCoder_undo_11 d_MessageCoder_undo_14 d_MessageCoder_undo_17 (fun z9 hz9 => ?_)
    exact ⟨rfl, ⟨b0, hs, hv, ⟨pf, hpa, hpf⟩, ⟨_, _, _, _, _, _, p0, hK⟩, hin, hli, ⟨_, _, hbt⟩, hrg, ⟨_, _, htr⟩, ⟨_, hcr⟩, hps⟩, c_4, hag⟩

theorem d_MessageCoder_save_0 : decode prog_1_method_62_code 0 = .ok (.aload_n 0, 1) := by decide +kernel
theorem d_MessageCoder_save_1 : decode prog_1_method_62_code 1 = .ok (.getfield 16, 3) := by decide +kernel
theorem d_MessageCoder_save_4 : decode prog_1_method_62_code 4 = .ok (.aload_n 0, 1) := by decide +kernel
theorem d_MessageCoder_save_5 : decode prog_1_method_62_code 5 = .ok (.getfield 12, 3) := by decide +kernel
theorem d_MessageCoder_save_8 : decode prog_1_method_62_code 8 = .ok (.invokevirtual 379, 3) := by decide +kernel
theorem d_MessageCoder_save_11 : decode prog_1_method_62_code 11 = .ok (.aload_n 0, 1) := by decide +kernel
theorem d_MessageCoder_save_12 : decode prog_1_method_62_code 12 = .ok (.iconst 1, 1) := by decide +kernel
theorem d_MessageCoder_save_13 : decode prog_1_method_62_code 13 = .ok (.putfield 383, 3) := by decide +kernel
theorem d_MessageCoder_save_16 : decode prog_1_method_62_code 16 = .ok (.aload_n 0, 1) := by decide +kernel
theorem d_MessageCoder_save_17 : decode prog_1_method_62_code 17 = .ok (.getfield 12, 3) := by decide +kernel
theorem d_MessageCoder_save_20 : decode prog_1_method_62_code 20 = .ok (.getfield 198, 3) := by decide +kernel
theorem d_MessageCoder_save_23 : decode prog_1_method_62_code 23 = .ok (.getfield 202, 3) := by decide +kernel
theorem d_MessageCoder_save_26 : decode prog_1_method_62_code 26 = .ok (.ireturn, 1) := by decide +kernel
set_option maxHeartbeats 4000000 in
set_option maxRecDepth 20000 in
theorem c_MessageCoder_save {P : xP} {F : xF} {z : Nat} {b : Nat} {cm : cmT} {M : mcS} (hM : xMC F (cm) (b) (M))  : xM P xy_MessageCoder_save [.ref b] F (z) 0 0 (fun r9 F9 z9 => r9 = some (.int (nI (M.1.2.2.1.1))) ∧ z9 = z ∧ xMC F9 (cm) (b) ((savM M)) ∧ (∀ a9 : Nat, (a9 < b ∨ b + 566 ≤ a9) → F9 a9 = F a9)) := by
  refine xM_i .int rfl (Nat.le_of_ble_eq_true rfl) (L0 := [some (.ref b)]) rfl rfl fun Θ hC hret => ?_
  have hag : ∀ a9 : Nat, (a9 < b ∨ b + 566 ≤ a9) → F a9 = F a9 := fun a9 _ => rfl
  obtain ⟨A, S, past, ⟨pn, psg⟩, ⟨lnn, lsg⟩, sv, pp, un, ep, fc⟩ := M
  obtain ⟨b0, hs, hv, ⟨pf, hpa, hpf⟩, ⟨cc, pa, f1, f2, hf, K, p0, hK⟩, hin, hli, ⟨nb, fb9, hbt⟩, hrg, ⟨tn, tsg, htr⟩, ⟨cr, hcr⟩, hps⟩ := id hM
  have b0 : F (b) = some (.inl (9, [.ref (b + 1), .ref (b + 50), .ref (b + 99), .ref (b + 100), .ref (b + 107), .ref (b + 109), .ref (b + 111), .ref (b + 122), .ref (b + 124), .int (nI (sv)), .int (nI (pp)), .int (nI (un)), .int ep, .int fc])) := b0
  have hs : xSt F (b + 1) (A) := hs
  have hv : xSt F (b + 50) (S) := hv
  have hpa : F (b + 99) = some (.inr (4, 9, pf)) := hpa
  have p0 : F (b + 100) = some (.inl (4, [.ref (b + 101), .ref (b + 103), .ref (b + 104), .ref (b + 105), .ref (b + 106), .int (nI (K.1)), .int (nI (cc)), .int (nI (pa)), .int (nI (f1)), .int (nI (f2)), .int (nI (hf))])) := p0
  have hK : xPk F (b + 100) (cm.2.1) (K) := hK
  have hin : xTx F (b + 101) (60) (pn) (psg) := hin
  have hli : xTx F (b + 107) (32) (lnn) (lsg) := hli
  have hbt : xBt F (b + 109) (nb) (fb9) := hbt
  have hrg : xRg F (b + 111) := hrg
  have htr : xTx F (b + 122) (16) (tn) (tsg) := htr
  have hcr : F (b + 124) = some (.inr (0, 17, fun b9 => .int (nI (cr b9)))) := hcr
  have hps : xPs F (b) (past) := hps
  refine x_aload_n hC d_MessageCoder_save_0 rfl rfl ?_
  refine x_getf hC kf_MessageCoder_16 b0 rfl d_MessageCoder_save_1 ?_
  refine x_aload_n hC d_MessageCoder_save_4 rfl rfl ?_
  refine x_getf hC kf_MessageCoder_12 b0 rfl d_MessageCoder_save_5 ?_
  refine x_callV hC kv_MessageCoder_379 (c_State_copyFrom (hs := hv) (ho := hs) (hd := by omega)) hv.1 rfl rfl (by decide) rfl rfl rfl (Nat.le_of_ble_eq_true rfl) (by decide) d_MessageCoder_save_8 (fun r9 F9 z9 hp9 => ?_)
  obtain ⟨rfl, h9c, j0, j1, hag9⟩ := hp9
  rw [h9c]
  clear h9c z9
  generalize F9 = F1 at *
  have b0 : F1 (b) = some (.inl (9, [.ref (b + 1), .ref (b + 50), .ref (b + 99), .ref (b + 100), .ref (b + 107), .ref (b + 109), .ref (b + 111), .ref (b + 122), .ref (b + 124), .int (nI (sv)), .int (nI (pp)), .int (nI (un)), .int ep, .int fc])) := (hag9 _ (by omega)).trans b0
  have hpa : F1 (b + 99) = some (.inr (4, 9, pf)) := (hag9 _ (by omega)).trans hpa
  have p0 : F1 (b + 100) = some (.inl (4, [.ref (b + 101), .ref (b + 103), .ref (b + 104), .ref (b + 105), .ref (b + 106), .int (nI (K.1)), .int (nI (cc)), .int (nI (pa)), .int (nI (f1)), .int (nI (f2)), .int (nI (hf))])) := (hag9 _ (by omega)).trans p0
  have hK : xPk F1 (b + 100) (cm.2.1) (K) := xPk_fr hK (fun a9 q1 q2 => hag9 a9 (by omega))
  have hin : xTx F1 (b + 101) (60) (pn) (psg) := xTx_fr hin (fun a9 q1 q2 => hag9 a9 (by omega))
  have hli : xTx F1 (b + 107) (32) (lnn) (lsg) := xTx_fr hli (fun a9 q1 q2 => hag9 a9 (by omega))
  have hbt : xBt F1 (b + 109) (nb) (fb9) := xBt_fr hbt (fun a9 q1 q2 => hag9 a9 (by omega))
  have hrg : xRg F1 (b + 111) := xRg_fr hrg (fun a9 q1 q2 => hag9 a9 (by omega))
  have htr : xTx F1 (b + 122) (16) (tn) (tsg) := xTx_fr htr (fun a9 q1 q2 => hag9 a9 (by omega))
  have hcr : F1 (b + 124) = some (.inr (0, 17, fun b9 => .int (nI (cr b9)))) := (hag9 _ (by omega)).trans hcr
  have hps : xPs F1 (b) (past) := xPs_fr hps (fun a9 q1 q2 => hag9 a9 (by omega))
  have hv : xSt F1 ((b + 50)) (A) := j0
  have hs : xSt F1 ((b + 1)) (A) := j1
  have hag : ∀ a9 : Nat, (a9 < b ∨ b + 566 ≤ a9) → F1 a9 = F a9 := fun a9 q0 => (hag9 a9 (by omega)).trans (hag a9 q0)
  have hg_8 := hag9
  clear hag9
  refine x_aload_n hC d_MessageCoder_save_11 rfl rfl ?_
  refine x_iconst hC d_MessageCoder_save_12 (v := nI 1) (by decide) ?_
  refine x_putf hC kf_MessageCoder_383 b0 (Nat.le_of_ble_eq_true rfl) rfl rfl d_MessageCoder_save_13 (fs1 := [.ref (b + 1), .ref (b + 50), .ref (b + 99), .ref (b + 100), .ref (b + 107), .ref (b + 109), .ref (b + 111), .ref (b + 122), .ref (b + 124), .int (nI 1), .int (nI (pp)), .int (nI (un)), .int ep, .int fc]) rfl ?_
  generalize e2 : xup F1 (b) (.inl (9, [.ref (b + 1), .ref (b + 50), .ref (b + 99), .ref (b + 100), .ref (b + 107), .ref (b + 109), .ref (b + 111), .ref (b + 122), .ref (b + 124), .int (nI 1), .int (nI (pp)), .int (nI (un)), .int ep, .int fc])) = F2
  have b0 : F2 (b) = some (.inl (9, [.ref (b + 1), .ref (b + 50), .ref (b + 99), .ref (b + 100), .ref (b + 107), .ref (b + 109), .ref (b + 111), .ref (b + 122), .ref (b + 124), .int (nI 1), .int (nI (pp)), .int (nI (un)), .int ep, .int fc])) := by rw [← e2]; exact xup_eq
  have hpa : F2 (b + 99) = some (.inr (4, 9, pf)) := by rw [← e2]; exact (xup_ne (by omega)).trans hpa
  have p0 : F2 (b + 100) = some (.inl (4, [.ref (b + 101), .ref (b + 103), .ref (b + 104), .ref (b + 105), .ref (b + 106), .int (nI (K.1)), .int (nI (cc)), .int (nI (pa)), .int (nI (f1)), .int (nI (f2)), .int (nI (hf))])) := by rw [← e2]; exact (xup_ne (by omega)).trans p0
  have hK : xPk F2 (b + 100) (cm.2.1) (K) := xPk_fr hK (fun a9 q1 q2 => by rw [← e2]; exact xup_ne (by omega))
  have hin : xTx F2 (b + 101) (60) (pn) (psg) := xTx_fr hin (fun a9 q1 q2 => by rw [← e2]; exact xup_ne (by omega))
  have hli : xTx F2 (b + 107) (32) (lnn) (lsg) := xTx_fr hli (fun a9 q1 q2 => by rw [← e2]; exact xup_ne (by omega))
  have hbt : xBt F2 (b + 109) (nb) (fb9) := xBt_fr hbt (fun a9 q1 q2 => by rw [← e2]; exact xup_ne (by omega))
  have hrg : xRg F2 (b + 111) := xRg_fr hrg (fun a9 q1 q2 => by rw [← e2]; exact xup_ne (by omega))
  have htr : xTx F2 (b + 122) (16) (tn) (tsg) := xTx_fr htr (fun a9 q1 q2 => by rw [← e2]; exact xup_ne (by omega))
  have hcr : F2 (b + 124) = some (.inr (0, 17, fun b9 => .int (nI (cr b9)))) := by rw [← e2]; exact (xup_ne (by omega)).trans hcr
  have hps : xPs F2 (b) (past) := xPs_fr hps (fun a9 q1 q2 => by rw [← e2]; exact xup_ne (by omega))
  have hv : xSt F2 ((b + 50)) (A) := xSt_fr hv (fun a9 q1 q2 => by rw [← e2]; exact xup_ne (by omega))
  have hs : xSt F2 ((b + 1)) (A) := xSt_fr hs (fun a9 q1 q2 => by rw [← e2]; exact xup_ne (by omega))
  have hag : ∀ a9 : Nat, (a9 < b ∨ b + 566 ≤ a9) → F2 a9 = F a9 := fun a9 q0 => by rw [← e2]; exact (xup_ne (by omega)).trans (hag a9 q0)
  refine x_aload_n hC d_MessageCoder_save_16 rfl rfl ?_
  refine x_getf hC kf_MessageCoder_12 b0 rfl d_MessageCoder_save_17 ?_
  obtain ⟨s0, sq1, sq2, ⟨p9, m9, sq3, hms9⟩, sq4⟩ := id hs
  have s0 : F2 (b + 1) = some (.inl (7, [.ref (b + 2), .ref (b + 9), .ref (b + 11), .ref (b + 37), .ref (b + 48), .int (nI (A.2.2.2.2.2.1)), .int (nI (A.2.2.2.2.2.2.1)), .int (nI (A.2.2.2.2.2.2.2.1)), .int (nI (A.2.2.2.2.2.2.2.2))])) := s0
  have sq3 : xQp F2 (b + 11) (A.2.2.1.1) (A.2.2.1.2.1) (p9) (m9) := sq3
  refine x_getf hC kf_MessageCoder_198 hs.1 rfl d_MessageCoder_save_20 ?_
  refine x_getf hC kf_MessageCoder_202 sq3.1 rfl d_MessageCoder_save_23 ?_
  exact hret _ _ _ _ _ _ _ d_MessageCoder_save_26 (by decide) (by decide) rfl (⟨rfl, rfl, ⟨b0, hs, hv, ⟨pf, hpa, hpf⟩, ⟨_, _, _, _, _, _, p0, hK⟩, hin, hli, ⟨_, _, hbt⟩, hrg, ⟨_, _, htr⟩, ⟨_, hcr⟩, hps⟩, hag⟩)

theorem d_MessageCoder_restore_0 : decode prog_1_method_63_code 0 = .ok (.aload_n 0, 1) := by decide +kernel
theorem d_MessageCoder_restore_1 : decode prog_1_method_63_code 1 = .ok (.getfield 383, 3) := by decide +kernel
theorem d_MessageCoder_restore_4 : decode prog_1_method_63_code 4 = .ok (.ifCond .ne 14, 3) := by decide +kernel
theorem d_MessageCoder_restore_7 : decode prog_1_method_63_code 7 = .ok (.new 89, 3) := by decide +kernel
theorem d_MessageCoder_restore_10 : decode prog_1_method_63_code 10 = .ok (.dup, 1) := by decide +kernel
theorem d_MessageCoder_restore_11 : decode prog_1_method_63_code 11 = .ok (.ldc_w 387, 3) := by decide +kernel
theorem d_MessageCoder_restore_14 : decode prog_1_method_63_code 14 = .ok (.invokespecial 93, 3) := by decide +kernel
theorem d_MessageCoder_restore_17 : decode prog_1_method_63_code 17 = .ok (.athrow, 1) := by decide +kernel
theorem d_MessageCoder_restore_18 : decode prog_1_method_63_code 18 = .ok (.aload_n 0, 1) := by decide +kernel
theorem d_MessageCoder_restore_19 : decode prog_1_method_63_code 19 = .ok (.getfield 12, 3) := by decide +kernel
theorem d_MessageCoder_restore_22 : decode prog_1_method_63_code 22 = .ok (.aload_n 0, 1) := by decide +kernel
theorem d_MessageCoder_restore_23 : decode prog_1_method_63_code 23 = .ok (.getfield 16, 3) := by decide +kernel
theorem d_MessageCoder_restore_26 : decode prog_1_method_63_code 26 = .ok (.invokevirtual 379, 3) := by decide +kernel
theorem d_MessageCoder_restore_29 : decode prog_1_method_63_code 29 = .ok (.aload_n 0, 1) := by decide +kernel
theorem d_MessageCoder_restore_30 : decode prog_1_method_63_code 30 = .ok (.iconst 0, 1) := by decide +kernel
theorem d_MessageCoder_restore_31 : decode prog_1_method_63_code 31 = .ok (.putfield 368, 3) := by decide +kernel
theorem d_MessageCoder_restore_34 : decode prog_1_method_63_code 34 = .ok (.aload_n 0, 1) := by decide +kernel
theorem d_MessageCoder_restore_35 : decode prog_1_method_63_code 35 = .ok (.getfield 12, 3) := by decide +kernel
theorem d_MessageCoder_restore_38 : decode prog_1_method_63_code 38 = .ok (.getfield 198, 3) := by decide +kernel
theorem d_MessageCoder_restore_41 : decode prog_1_method_63_code 41 = .ok (.getfield 202, 3) := by decide +kernel
theorem d_MessageCoder_restore_44 : decode prog_1_method_63_code 44 = .ok (.ireturn, 1) := by decide +kernel
set_option maxHeartbeats 4000000 in
set_option maxRecDepth 20000 in
theorem c_MessageCoder_restore {P : xP} {F : xF} {z : Nat} {b : Nat} {cm : cmT} {M : mcS} (hM : xMC F (cm) (b) (M)) (hZx : xZx P) (hsv0 : M.2.2.2.2.2.1 ≤ 1) : xMx P xy_MessageCoder_restore [.ref b] F (z) 1 6 (fun r9 F9 z9 => r9 = some (.int (nI (M.2.1.2.2.1.1))) ∧ z9 = z ∧ xMC F9 (cm) (b) ((resM M)) ∧ (0 < M.2.2.2.2.2.1) ∧ (∀ a9 : Nat, (a9 < b ∨ b + 566 ≤ a9) → F9 a9 = F a9)) (fun E9 F9 z9 => (E9 = "java/lang/IllegalStateException" ∧ xMC F9 (cm) (b) (M) ∧ (M.2.2.2.2.2.1 = 0) ∧ (∀ a9 : Nat, (a9 < b ∨ b + 566 ≤ a9) → F9 a9 = F a9))) := by
  refine xMx_i .int rfl (Nat.le_of_ble_eq_true rfl) (L0 := [some (.ref b)]) rfl rfl fun Θ hC hR hret => ?_
  have hag : ∀ a9 : Nat, (a9 < b ∨ b + 566 ≤ a9) → F a9 = F a9 := fun a9 _ => rfl
  obtain ⟨A, S, past, ⟨pn, psg⟩, ⟨lnn, lsg⟩, sv, pp, un, ep, fc⟩ := M
  obtain ⟨b0, hs, hv, ⟨pf, hpa, hpf⟩, ⟨cc, pa, f1, f2, hf, K, p0, hK⟩, hin, hli, ⟨nb, fb9, hbt⟩, hrg, ⟨tn, tsg, htr⟩, ⟨cr, hcr⟩, hps⟩ := id hM
  have b0 : F (b) = some (.inl (9, [.ref (b + 1), .ref (b + 50), .ref (b + 99), .ref (b + 100), .ref (b + 107), .ref (b + 109), .ref (b + 111), .ref (b + 122), .ref (b + 124), .int (nI (sv)), .int (nI (pp)), .int (nI (un)), .int ep, .int fc])) := b0
  have hs : xSt F (b + 1) (A) := hs
  have hv : xSt F (b + 50) (S) := hv
  have hpa : F (b + 99) = some (.inr (4, 9, pf)) := hpa
  have p0 : F (b + 100) = some (.inl (4, [.ref (b + 101), .ref (b + 103), .ref (b + 104), .ref (b + 105), .ref (b + 106), .int (nI (K.1)), .int (nI (cc)), .int (nI (pa)), .int (nI (f1)), .int (nI (f2)), .int (nI (hf))])) := p0
  have hK : xPk F (b + 100) (cm.2.1) (K) := hK
  have hin : xTx F (b + 101) (60) (pn) (psg) := hin
  have hli : xTx F (b + 107) (32) (lnn) (lsg) := hli
  have hbt : xBt F (b + 109) (nb) (fb9) := hbt
  have hrg : xRg F (b + 111) := hrg
  have htr : xTx F (b + 122) (16) (tn) (tsg) := htr
  have hcr : F (b + 124) = some (.inr (0, 17, fun b9 => .int (nI (cr b9)))) := hcr
  have hps : xPs F (b) (past) := hps
  have hsv9 : sv ≤ 1 := hsv0
  refine x_aload_n hC d_MessageCoder_restore_0 rfl rfl ?_
  refine x_getf hC kf_MessageCoder_383 b0 rfl d_MessageCoder_restore_1 ?_
  refine x_ifN_ne hC d_MessageCoder_restore_4 (tgt := 18) (by decide) (by omega) (fun c_4 => ?_) (fun c_4 => ?_)
  · skip
    refine x_aload_n hC d_MessageCoder_restore_18 rfl rfl ?_
    refine x_getf hC kf_MessageCoder_12 b0 rfl d_MessageCoder_restore_19 ?_
    refine x_aload_n hC d_MessageCoder_restore_22 rfl rfl ?_
    refine x_getf hC kf_MessageCoder_16 b0 rfl d_MessageCoder_restore_23 ?_
    refine x_callV hC kv_MessageCoder_379 (c_State_copyFrom (hs := hs) (ho := hv) (hd := by omega)) hs.1 rfl rfl (by decide) rfl rfl rfl (Nat.le_of_ble_eq_true rfl) (by decide) d_MessageCoder_restore_26 (fun r9 F9 z9 hp9 => ?_)
    obtain ⟨rfl, h9c, j0, j1, hag9⟩ := hp9
    rw [h9c]
    clear h9c z9
    generalize F9 = F1 at *
    have b0 : F1 (b) = some (.inl (9, [.ref (b + 1), .ref (b + 50), .ref (b + 99), .ref (b + 100), .ref (b + 107), .ref (b + 109), .ref (b + 111), .ref (b + 122), .ref (b + 124), .int (nI (sv)), .int (nI (pp)), .int (nI (un)), .int ep, .int fc])) := (hag9 _ (by omega)).trans b0
    have hpa : F1 (b + 99) = some (.inr (4, 9, pf)) := (hag9 _ (by omega)).trans hpa
    have p0 : F1 (b + 100) = some (.inl (4, [.ref (b + 101), .ref (b + 103), .ref (b + 104), .ref (b + 105), .ref (b + 106), .int (nI (K.1)), .int (nI (cc)), .int (nI (pa)), .int (nI (f1)), .int (nI (f2)), .int (nI (hf))])) := (hag9 _ (by omega)).trans p0
    have hK : xPk F1 (b + 100) (cm.2.1) (K) := xPk_fr hK (fun a9 q1 q2 => hag9 a9 (by omega))
    have hin : xTx F1 (b + 101) (60) (pn) (psg) := xTx_fr hin (fun a9 q1 q2 => hag9 a9 (by omega))
    have hli : xTx F1 (b + 107) (32) (lnn) (lsg) := xTx_fr hli (fun a9 q1 q2 => hag9 a9 (by omega))
    have hbt : xBt F1 (b + 109) (nb) (fb9) := xBt_fr hbt (fun a9 q1 q2 => hag9 a9 (by omega))
    have hrg : xRg F1 (b + 111) := xRg_fr hrg (fun a9 q1 q2 => hag9 a9 (by omega))
    have htr : xTx F1 (b + 122) (16) (tn) (tsg) := xTx_fr htr (fun a9 q1 q2 => hag9 a9 (by omega))
    have hcr : F1 (b + 124) = some (.inr (0, 17, fun b9 => .int (nI (cr b9)))) := (hag9 _ (by omega)).trans hcr
    have hps : xPs F1 (b) (past) := xPs_fr hps (fun a9 q1 q2 => hag9 a9 (by omega))
    have hs : xSt F1 ((b + 1)) (S) := j0
    have hv : xSt F1 ((b + 50)) (S) := j1
    have hag : ∀ a9 : Nat, (a9 < b ∨ b + 566 ≤ a9) → F1 a9 = F a9 := fun a9 q0 => (hag9 a9 (by omega)).trans (hag a9 q0)
    have hg_26 := hag9
    clear hag9
    refine x_aload_n hC d_MessageCoder_restore_29 rfl rfl ?_
    refine x_iconst hC d_MessageCoder_restore_30 (v := nI 0) (by decide) ?_
    refine x_putf hC kf_MessageCoder_368 b0 (Nat.le_of_ble_eq_true rfl) rfl rfl d_MessageCoder_restore_31 (fs1 := [.ref (b + 1), .ref (b + 50), .ref (b + 99), .ref (b + 100), .ref (b + 107), .ref (b + 109), .ref (b + 111), .ref (b + 122), .ref (b + 124), .int (nI (sv)), .int (nI (pp)), .int (nI 0), .int ep, .int fc]) rfl ?_
    generalize e2 : xup F1 (b) (.inl (9, [.ref (b + 1), .ref (b + 50), .ref (b + 99), .ref (b + 100), .ref (b + 107), .ref (b + 109), .ref (b + 111), .ref (b + 122), .ref (b + 124), .int (nI (sv)), .int (nI (pp)), .int (nI 0), .int ep, .int fc])) = F2
    have b0 : F2 (b) = some (.inl (9, [.ref (b + 1), .ref (b + 50), .ref (b + 99), .ref (b + 100), .ref (b + 107), .ref (b + 109), .ref (b + 111), .ref (b + 122), .ref (b + 124), .int (nI (sv)), .int (nI (pp)), .int (nI 0), .int ep, .int fc])) := by rw [← e2]; exact xup_eq
    have hpa : F2 (b + 99) = some (.inr (4, 9, pf)) := by rw [← e2]; exact (xup_ne (by omega)).trans hpa
    have p0 : F2 (b + 100) = some (.inl (4, [.ref (b + 101), .ref (b + 103), .ref (b + 104), .ref (b + 105), .ref (b + 106), .int (nI (K.1)), .int (nI (cc)), .int (nI (pa)), .int (nI (f1)), .int (nI (f2)), .int (nI (hf))])) := by rw [← e2]; exact (xup_ne (by omega)).trans p0
    have hK : xPk F2 (b + 100) (cm.2.1) (K) := xPk_fr hK (fun a9 q1 q2 => by rw [← e2]; exact xup_ne (by omega))
    have hin : xTx F2 (b + 101) (60) (pn) (psg) := xTx_fr hin (fun a9 q1 q2 => by rw [← e2]; exact xup_ne (by omega))
    have hli : xTx F2 (b + 107) (32) (lnn) (lsg) := xTx_fr hli (fun a9 q1 q2 => by rw [← e2]; exact xup_ne (by omega))
    have hbt : xBt F2 (b + 109) (nb) (fb9) := xBt_fr hbt (fun a9 q1 q2 => by rw [← e2]; exact xup_ne (by omega))
    have hrg : xRg F2 (b + 111) := xRg_fr hrg (fun a9 q1 q2 => by rw [← e2]; exact xup_ne (by omega))
    have htr : xTx F2 (b + 122) (16) (tn) (tsg) := xTx_fr htr (fun a9 q1 q2 => by rw [← e2]; exact xup_ne (by omega))
    have hcr : F2 (b + 124) = some (.inr (0, 17, fun b9 => .int (nI (cr b9)))) := by rw [← e2]; exact (xup_ne (by omega)).trans hcr
    have hps : xPs F2 (b) (past) := xPs_fr hps (fun a9 q1 q2 => by rw [← e2]; exact xup_ne (by omega))
    have hs : xSt F2 ((b + 1)) (S) := xSt_fr hs (fun a9 q1 q2 => by rw [← e2]; exact xup_ne (by omega))
    have hv : xSt F2 ((b + 50)) (S) := xSt_fr hv (fun a9 q1 q2 => by rw [← e2]; exact xup_ne (by omega))
    have hag : ∀ a9 : Nat, (a9 < b ∨ b + 566 ≤ a9) → F2 a9 = F a9 := fun a9 q0 => by rw [← e2]; exact (xup_ne (by omega)).trans (hag a9 q0)
    refine x_aload_n hC d_MessageCoder_restore_34 rfl rfl ?_
    refine x_getf hC kf_MessageCoder_12 b0 rfl d_MessageCoder_restore_35 ?_
    obtain ⟨s0, sq1, sq2, ⟨p9, m9, sq3, hms9⟩, sq4⟩ := id hs
    have sq3 : xQp F2 (b + 11) (S.2.2.1.1) (S.2.2.1.2.1) (p9) (m9) := sq3
    refine x_getf hC kf_MessageCoder_198 hs.1 rfl d_MessageCoder_restore_38 ?_
    refine x_getf hC kf_MessageCoder_202 sq3.1 rfl d_MessageCoder_restore_41 ?_
    exact hret _ _ _ _ _ _ _ d_MessageCoder_restore_44 (by decide) (by decide) rfl (⟨rfl, rfl, ⟨b0, hs, hv, ⟨pf, hpa, hpf⟩, ⟨_, _, _, _, _, _, p0, hK⟩, hin, hli, ⟨_, _, hbt⟩, hrg, ⟨_, _, htr⟩, ⟨_, hcr⟩, hps⟩, c_4, hag⟩)
  · skip
    refine x_thrW hC hR hZx (xtw2_IllegalStateException _ _ xsr_387) rfl (Nat.le_of_ble_eq_true rfl) (by decide) (by decide) d_MessageCoder_restore_7 d_MessageCoder_restore_10 d_MessageCoder_restore_11 d_MessageCoder_restore_14 d_MessageCoder_restore_17 (fun z9 hz9 => ?_)
    exact ⟨rfl, ⟨b0, hs, hv, ⟨pf, hpa, hpf⟩, ⟨_, _, _, _, _, _, p0, hK⟩, hin, hli, ⟨_, _, hbt⟩, hrg, ⟨_, _, htr⟩, ⟨_, hcr⟩, hps⟩, c_4, hag⟩

/-- the steps of a program, one behind the other: whether all went, how many, the state -/
def prgS (K : kS) (A : aS) : Nat → Bool × Nat × aS
  | 0 => (true, 0, A)
  | i + 1 => if (prgS K A i).1 = true then if (aDo (prgS K A i).2.2 (K.2.1 i) (K.2.2.1 i) (K.2.2.2.1 i)).1 < 0 then (false, i, (prgS K A i).2.2) else (true, i + 1, (aDo (prgS K A i).2.2 (K.2.1 i) (K.2.2.1 i) (K.2.2.2.1 i)).2) else prgS K A i
theorem prgS_stop {K : kS} {A : aS} {k : Nat} (h : (prgS K A k).1 = false) : ∀ j, prgS K A (k + j) = prgS K A k
  | 0 => rfl
  | j + 1 => by
    show (if (prgS K A (k + j)).1 = true then _ else prgS K A (k + j)) = _
    rw [prgS_stop h j, if_neg (by rw [h]; decide)]
theorem prgS_fail {K : kS} {A B : aS} {i : Nat} (h : prgS K A i = (true, i, B)) (hi : i < K.1) (hf : (aDo B (K.2.1 i) (K.2.2.1 i) (K.2.2.2.1 i)).1 < 0) : prgS K A K.1 = (false, i, B) := by
  have e1 : prgS K A (i + 1) = (false, i, B) := by
    show (if (prgS K A i).1 = true then _ else _) = _
    rw [h, if_pos rfl]
    exact if_pos hf
  have e2 := prgS_stop (K := K) (A := A) (k := i + 1) (by rw [e1]) (K.1 - (i + 1))
  rw [show i + 1 + (K.1 - (i + 1)) = K.1 by omega, e1] at e2
  exact e2
theorem prgS_next {K : kS} {A B : aS} {i : Nat} (h : prgS K A i = (true, i, B)) (hf : ¬ (aDo B (K.2.1 i) (K.2.2.1 i) (K.2.2.2.1 i)).1 < 0) : prgS K A (i + 1) = (true, i + 1, (aDo B (K.2.1 i) (K.2.2.1 i) (K.2.2.2.1 i)).2) := by
  show (if (prgS K A i).1 = true then _ else _) = _
  rw [h, if_pos rfl]
  exact if_neg hf
theorem aDo_nx (A : aS) (j c x : Nat) : (aDo A j c x).2.2.2.1.2.1 ≤ A.2.2.1.2.1 + 1 := by
  unfold aDo
  repeat' split
  · unfold aWt; split <;> exact Nat.le_succ _
  · unfold aDr; split
    · split <;> exact Nat.le_succ _
    · exact Nat.le_succ _
  · exact Nat.le_succ _
  · unfold aPo; split
    · split
      · exact Nat.le_succ _
      · exact Nat.le_refl _
    · exact Nat.le_succ _
  · unfold aDi; split <;> exact Nat.le_succ _
  · unfold aHu; split
    · split <;> exact Nat.le_succ _
    · exact Nat.le_succ _
  · unfold aLe; split <;> exact Nat.le_succ _
  · unfold aSe; split <;> exact Nat.le_succ _
  · unfold aFl; split <;> exact Nat.le_succ _
  · unfold aRe; split <;> exact Nat.le_succ _
def prgP (K : kS) (A : aS) (pp : Nat) : Nat := if (prgS K A K.1).1 = true then pp + 1 else pp
def prgU (K : kS) (A : aS) (un : Nat) : Nat := if (prgS K A K.1).1 = true then un1 un else un
def prgA (K : kS) (A : aS) : aS := if (prgS K A K.1).1 = true then (prgS K A K.1).2.2 else A
def prgV (K : kS) (A : aS) : Int32 := if (prgS K A K.1).1 = true then -1 else nI (K.2.2.2.2 (prgS K A K.1).2.1)

theorem d_MessageCoder_carryOutProgram_0 : decode prog_1_method_72_code 0 = .ok (.aload_n 0, 1) := by decide +kernel
theorem d_MessageCoder_carryOutProgram_1 : decode prog_1_method_72_code 1 = .ok (.invokevirtual 404, 3) := by decide +kernel
theorem d_MessageCoder_carryOutProgram_4 : decode prog_1_method_72_code 4 = .ok (.iconst 0, 1) := by decide +kernel
theorem d_MessageCoder_carryOutProgram_5 : decode prog_1_method_72_code 5 = .ok (.istore_n 1, 1) := by decide +kernel
theorem d_MessageCoder_carryOutProgram_6 : decode prog_1_method_72_code 6 = .ok (.iload_n 1, 1) := by decide +kernel
theorem d_MessageCoder_carryOutProgram_7 : decode prog_1_method_72_code 7 = .ok (.aload_n 0, 1) := by decide +kernel
theorem d_MessageCoder_carryOutProgram_8 : decode prog_1_method_72_code 8 = .ok (.getfield 26, 3) := by decide +kernel
theorem d_MessageCoder_carryOutProgram_11 : decode prog_1_method_72_code 11 = .ok (.getfield 454, 3) := by decide +kernel
theorem d_MessageCoder_carryOutProgram_14 : decode prog_1_method_72_code 14 = .ok (.if_icmp .ge 57, 3) := by decide +kernel
theorem d_MessageCoder_carryOutProgram_17 : decode prog_1_method_72_code 17 = .ok (.aload_n 0, 1) := by decide +kernel
theorem d_MessageCoder_carryOutProgram_18 : decode prog_1_method_72_code 18 = .ok (.aload_n 0, 1) := by decide +kernel
theorem d_MessageCoder_carryOutProgram_19 : decode prog_1_method_72_code 19 = .ok (.getfield 26, 3) := by decide +kernel
theorem d_MessageCoder_carryOutProgram_22 : decode prog_1_method_72_code 22 = .ok (.getfield 457, 3) := by decide +kernel
theorem d_MessageCoder_carryOutProgram_25 : decode prog_1_method_72_code 25 = .ok (.iload_n 1, 1) := by decide +kernel
theorem d_MessageCoder_carryOutProgram_26 : decode prog_1_method_72_code 26 = .ok (.aaload, 1) := by decide +kernel
theorem d_MessageCoder_carryOutProgram_27 : decode prog_1_method_72_code 27 = .ok (.aload_n 0, 1) := by decide +kernel
theorem d_MessageCoder_carryOutProgram_28 : decode prog_1_method_72_code 28 = .ok (.getfield 26, 3) := by decide +kernel
theorem d_MessageCoder_carryOutProgram_31 : decode prog_1_method_72_code 31 = .ok (.getfield 461, 3) := by decide +kernel
theorem d_MessageCoder_carryOutProgram_34 : decode prog_1_method_72_code 34 = .ok (.iload_n 1, 1) := by decide +kernel
theorem d_MessageCoder_carryOutProgram_35 : decode prog_1_method_72_code 35 = .ok (.iaload, 1) := by decide +kernel
theorem d_MessageCoder_carryOutProgram_36 : decode prog_1_method_72_code 36 = .ok (.aload_n 0, 1) := by decide +kernel
theorem d_MessageCoder_carryOutProgram_37 : decode prog_1_method_72_code 37 = .ok (.getfield 26, 3) := by decide +kernel
theorem d_MessageCoder_carryOutProgram_40 : decode prog_1_method_72_code 40 = .ok (.getfield 464, 3) := by decide +kernel
theorem d_MessageCoder_carryOutProgram_43 : decode prog_1_method_72_code 43 = .ok (.iload_n 1, 1) := by decide +kernel
theorem d_MessageCoder_carryOutProgram_44 : decode prog_1_method_72_code 44 = .ok (.iaload, 1) := by decide +kernel
theorem d_MessageCoder_carryOutProgram_45 : decode prog_1_method_72_code 45 = .ok (.invokevirtual 407, 3) := by decide +kernel
theorem d_MessageCoder_carryOutProgram_48 : decode prog_1_method_72_code 48 = .ok (.ifCond .ge 17, 3) := by decide +kernel
theorem d_MessageCoder_carryOutProgram_51 : decode prog_1_method_72_code 51 = .ok (.aload_n 0, 1) := by decide +kernel
theorem d_MessageCoder_carryOutProgram_52 : decode prog_1_method_72_code 52 = .ok (.invokevirtual 376, 3) := by decide +kernel
theorem d_MessageCoder_carryOutProgram_55 : decode prog_1_method_72_code 55 = .ok (.aload_n 0, 1) := by decide +kernel
theorem d_MessageCoder_carryOutProgram_56 : decode prog_1_method_72_code 56 = .ok (.getfield 26, 3) := by decide +kernel
theorem d_MessageCoder_carryOutProgram_59 : decode prog_1_method_72_code 59 = .ok (.getfield 467, 3) := by decide +kernel
theorem d_MessageCoder_carryOutProgram_62 : decode prog_1_method_72_code 62 = .ok (.iload_n 1, 1) := by decide +kernel
theorem d_MessageCoder_carryOutProgram_63 : decode prog_1_method_72_code 63 = .ok (.iaload, 1) := by decide +kernel
theorem d_MessageCoder_carryOutProgram_64 : decode prog_1_method_72_code 64 = .ok (.ireturn, 1) := by decide +kernel
theorem d_MessageCoder_carryOutProgram_65 : decode prog_1_method_72_code 65 = .ok (.iinc 1 1, 3) := by decide +kernel
theorem d_MessageCoder_carryOutProgram_68 : decode prog_1_method_72_code 68 = .ok (.goto (-62), 3) := by decide +kernel
theorem d_MessageCoder_carryOutProgram_71 : decode prog_1_method_72_code 71 = .ok (.aload_n 0, 1) := by decide +kernel
theorem d_MessageCoder_carryOutProgram_72 : decode prog_1_method_72_code 72 = .ok (.invokevirtual 410, 3) := by decide +kernel
theorem d_MessageCoder_carryOutProgram_75 : decode prog_1_method_72_code 75 = .ok (.iconst (-1), 1) := by decide +kernel
theorem d_MessageCoder_carryOutProgram_76 : decode prog_1_method_72_code 76 = .ok (.ireturn, 1) := by decide +kernel
set_option maxHeartbeats 4000000 in
set_option maxRecDepth 20000 in
theorem c_MessageCoder_carryOutProgram {P : xP} {F : xF} {z : Nat} {b : Nat} {cm : cmT} {sm : Nat} {sv : Nat} {pp : Nat} {un : Nat} {ep : Int32} {fc : Int32} {A : aS} {past : Nat → aS} {pf : Nat → Value} {nb : Nat} {fb9 : Nat → Nat} {K : kS} {cc : Nat} {pa : Nat} {f1 : Nat} {f2 : Nat} {hf : Nat} (b0 : F (b) = some (.inl (9, [.ref (b + 1), .ref (b + 50), .ref (b + 99), .ref (b + 100), .ref (b + 107), .ref (b + 109), .ref (b + 111), .ref (b + 122), .ref (b + 124), .int (nI (sv)), .int (nI (pp)), .int (nI (un)), .int ep, .int fc]))) (hs : xSt F (b + 1) (A)) (hbt : xBt F (b + 109) (nb) (fb9)) (hpa : F (b + 99) = some (.inr (4, 9, pf))) (hps : xPs F (b) (past)) (p0 : F (b + 100) = some (.inl (4, [.ref (b + 101), .ref (b + 103), .ref (b + 104), .ref (b + 105), .ref (b + 106), .int (nI (K.1)), .int (nI (cc)), .int (nI (pa)), .int (nI (f1)), .int (nI (f2)), .int (nI (hf))]))) (hK : xPk F (b + 100) (cm.2.1) (K)) (hCM : xCM P cm) (hSM : xSM P sm) (hpf : ∀ i, i < 9 → pf i = .ref (b + 125 + 49 * i)) (hpp : pp < 100000) (hun : un < 100000) (hKb : ∀ j, j < K.1 → K.2.2.1 j < 65536) (hKn : A.2.2.1.2.1 + K.1 ≤ 999) : xM P xy_MessageCoder_carryOutProgram [.ref b] F (z) 0 0 (fun r9 F9 z9 => ∃ nb1 : Nat, ∃ fb1 : Nat → Nat, r9 = some (.int (prgV K A)) ∧ z9 = z ∧ F9 (b) = some (.inl (9, [.ref (b + 1), .ref (b + 50), .ref (b + 99), .ref (b + 100), .ref (b + 107), .ref (b + 109), .ref (b + 111), .ref (b + 122), .ref (b + 124), .int (nI (sv)), .int (nI (prgP K A pp)), .int (nI (prgU K A un)), .int ep, .int fc])) ∧ xSt F9 (b + 1) ((prgA K A)) ∧ xBt F9 (b + 109) (nb1) (fb1) ∧ xPs F9 (b) ((updA past (pp % 9) A)) ∧ F9 (b + 100) = some (.inl (4, [.ref (b + 101), .ref (b + 103), .ref (b + 104), .ref (b + 105), .ref (b + 106), .int (nI (K.1)), .int (nI (cc)), .int (nI (pa)), .int (nI (f1)), .int (nI (f2)), .int (nI (hf))])) ∧ xPk F9 (b + 100) (cm.2.1) (K) ∧ (∀ a9 : Nat, (a9 < b ∨ b + 1 ≤ a9) → (a9 < b + 1 ∨ b + 1 + 49 ≤ a9) → (a9 < b + 109 ∨ b + 109 + 2 ≤ a9) → (a9 < b + 125 ∨ b + 125 + 441 ≤ a9) → F9 a9 = F a9)) := by
  refine xM_i .int rfl (Nat.le_of_ble_eq_true rfl) (L0 := [some (.ref b), none]) rfl rfl fun Θ hC hret => ?_
  have hag : ∀ a9 : Nat, (a9 < b ∨ b + 1 ≤ a9) → (a9 < b + 1 ∨ b + 1 + 49 ≤ a9) → (a9 < b + 109 ∨ b + 109 + 2 ≤ a9) → (a9 < b + 125 ∨ b + 125 + 441 ≤ a9) → F a9 = F a9 := fun a9 _ _ _ _ => rfl
  obtain ⟨hk60, ⟨kfv, kc1, kh1⟩, ⟨kg1, kc2, kh2⟩, ⟨kg2, kc3, kh3⟩, kg3, kc4, kh4⟩ := id hK
  have kc1 : F (b + 103) = some (.inr (6, 60, kfv)) := kc1
  have kc2 : F (b + 104) = some (.inr (0, 60, fun b9 => .int (nI (kg1 b9)))) := kc2
  have kc3 : F (b + 105) = some (.inr (0, 60, fun b9 => .int (nI (kg2 b9)))) := kc3
  have kc4 : F (b + 106) = some (.inr (0, 60, fun b9 => .int (nI (kg3 b9)))) := kc4
  refine x_aload_n hC d_MessageCoder_carryOutProgram_0 rfl rfl ?_
  refine x_callV hC kv_MessageCoder_404 (c_MessageCoder_keepBefore (b0 := b0) (hpa := hpa) (hs := hs) (hps := hps) (hpf := hpf) (hpp := by omega)) b0 rfl rfl (by decide) rfl rfl rfl (Nat.le_of_ble_eq_true rfl) (by decide) d_MessageCoder_carryOutProgram_1 (fun r9 F9 z9 hp9 => ?_)
  obtain ⟨rfl, h9c, j0, hag9⟩ := hp9
  rw [h9c]
  clear h9c z9
  generalize F9 = F1 at *
  have b0 : F1 (b) = some (.inl (9, [.ref (b + 1), .ref (b + 50), .ref (b + 99), .ref (b + 100), .ref (b + 107), .ref (b + 109), .ref (b + 111), .ref (b + 122), .ref (b + 124), .int (nI (sv)), .int (nI (pp)), .int (nI (un)), .int ep, .int fc])) := (hag9 _ (by omega)).trans b0
  have hs : xSt F1 (b + 1) (A) := xSt_fr hs (fun a9 q1 q2 => hag9 a9 (by omega))
  have hbt : xBt F1 (b + 109) (nb) (fb9) := xBt_fr hbt (fun a9 q1 q2 => hag9 a9 (by omega))
  have hpa : F1 (b + 99) = some (.inr (4, 9, pf)) := (hag9 _ (by omega)).trans hpa
  have p0 : F1 (b + 100) = some (.inl (4, [.ref (b + 101), .ref (b + 103), .ref (b + 104), .ref (b + 105), .ref (b + 106), .int (nI (K.1)), .int (nI (cc)), .int (nI (pa)), .int (nI (f1)), .int (nI (f2)), .int (nI (hf))])) := (hag9 _ (by omega)).trans p0
  have kc1 : F1 (b + 103) = some (.inr (6, 60, kfv)) := (hag9 _ (by omega)).trans kc1
  have kc2 : F1 (b + 104) = some (.inr (0, 60, fun b9 => .int (nI (kg1 b9)))) := (hag9 _ (by omega)).trans kc2
  have kc3 : F1 (b + 105) = some (.inr (0, 60, fun b9 => .int (nI (kg2 b9)))) := (hag9 _ (by omega)).trans kc3
  have kc4 : F1 (b + 106) = some (.inr (0, 60, fun b9 => .int (nI (kg3 b9)))) := (hag9 _ (by omega)).trans kc4
  have hps : xPs F1 (b) ((updA past (pp % 9) A)) := j0
  have hag : ∀ a9 : Nat, (a9 < b ∨ b + 1 ≤ a9) → (a9 < b + 1 ∨ b + 1 + 49 ≤ a9) → (a9 < b + 109 ∨ b + 109 + 2 ≤ a9) → (a9 < b + 125 ∨ b + 125 + 441 ≤ a9) → F1 a9 = F a9 := fun a9 q0 q1 q2 q3 => (hag9 a9 (by omega)).trans (hag a9 q0 q1 q2 q3)
  have hg_1 := hag9
  clear hag9
  refine x_iconst hC d_MessageCoder_carryOutProgram_4 (v := nI 0) (by decide) ?_
  refine x_istore_n hC d_MessageCoder_carryOutProgram_5 rfl (Nat.le_of_ble_eq_true rfl) (L1 := [some (.ref b), some (.int (nI 0))]) rfl ?_
  have loop_6 : ∀ (m9 : Nat) (Fh6 : xF) (i : Nat) (B : aS) (nb1 : Nat) (fb1 : Nat → Nat), (Fh6 (b) = some (.inl (9, [.ref (b + 1), .ref (b + 50), .ref (b + 99), .ref (b + 100), .ref (b + 107), .ref (b + 109), .ref (b + 111), .ref (b + 122), .ref (b + 124), .int (nI (sv)), .int (nI (pp)), .int (nI (un)), .int ep, .int fc]))) → (xSt Fh6 (b + 1) (B)) → (xBt Fh6 (b + 109) (nb1) (fb1)) → (Fh6 (b + 99) = some (.inr (4, 9, pf))) → (xPs Fh6 (b) ((updA past (pp % 9) A))) → (Fh6 (b + 100) = some (.inl (4, [.ref (b + 101), .ref (b + 103), .ref (b + 104), .ref (b + 105), .ref (b + 106), .int (nI (K.1)), .int (nI (cc)), .int (nI (pa)), .int (nI (f1)), .int (nI (f2)), .int (nI (hf))]))) → (Fh6 (b + 103) = some (.inr (6, 60, kfv))) → (Fh6 (b + 104) = some (.inr (0, 60, fun b9 => .int (nI (kg1 b9))))) → (Fh6 (b + 105) = some (.inr (0, 60, fun b9 => .int (nI (kg2 b9))))) → (Fh6 (b + 106) = some (.inr (0, 60, fun b9 => .int (nI (kg3 b9))))) → (∀ a9 : Nat, (a9 < b ∨ b + 1 ≤ a9) → (a9 < b + 1 ∨ b + 1 + 49 ≤ a9) → (a9 < b + 109 ∨ b + 109 + 2 ≤ a9) → (a9 < b + 125 ∨ b + 125 + 441 ≤ a9) → Fh6 a9 = F a9) → (i ≤ K.1) → (prgS K A i = (true, i, B)) → (B.2.2.1.2.1 ≤ A.2.2.1.2.1 + i) → (K.1 - i < m9) → xX P Θ 6 [some (.ref b), some (.int (nI (i)))] [] Fh6 (z) 0 0 := by
    intro m9
    induction m9 with
    | zero => intros; omega
    | succ m9 ih_6 =>
      intro Fh6 i B nb1 fb1 b0 hs hbt hpa hps p0 kc1 kc2 kc3 kc4 hag hi hq hnx9 hm_6
      refine x_iload_n hC d_MessageCoder_carryOutProgram_6 rfl rfl ?_
      refine x_aload_n hC d_MessageCoder_carryOutProgram_7 rfl rfl ?_
      refine x_getf hC kf_MessageCoder_26 b0 rfl d_MessageCoder_carryOutProgram_8 ?_
      refine x_getf hC kf_MessageCoder_454 p0 rfl d_MessageCoder_carryOutProgram_11 ?_
      refine x_icmpN_ge hC d_MessageCoder_carryOutProgram_14 (tgt := 71) (by decide) (by omega) (by omega) (fun c_14 => ?_) (fun c_14 => ?_)
      · skip
        refine x_aload_n hC d_MessageCoder_carryOutProgram_71 rfl rfl ?_
        refine x_callV hC kv_MessageCoder_410 (c_MessageCoder_countChange (b0 := b0) (hpp := by omega) (hun := by omega)) b0 rfl rfl (by decide) rfl rfl rfl (Nat.le_of_ble_eq_true rfl) (by decide) d_MessageCoder_carryOutProgram_72 (fun r9 F9 z9 hp9 => ?_)
        obtain ⟨rfl, h9c, j0, hag9⟩ := hp9
        rw [h9c]
        clear h9c z9
        generalize F9 = F2 at *
        have hs : xSt F2 (b + 1) (B) := xSt_fr hs (fun a9 q1 q2 => hag9 a9 (by omega))
        have hbt : xBt F2 (b + 109) (nb1) (fb1) := xBt_fr hbt (fun a9 q1 q2 => hag9 a9 (by omega))
        have hpa : F2 (b + 99) = some (.inr (4, 9, pf)) := (hag9 _ (by omega)).trans hpa
        have hps : xPs F2 (b) ((updA past (pp % 9) A)) := xPs_fr hps (fun a9 q1 q2 => hag9 a9 (by omega))
        have p0 : F2 (b + 100) = some (.inl (4, [.ref (b + 101), .ref (b + 103), .ref (b + 104), .ref (b + 105), .ref (b + 106), .int (nI (K.1)), .int (nI (cc)), .int (nI (pa)), .int (nI (f1)), .int (nI (f2)), .int (nI (hf))])) := (hag9 _ (by omega)).trans p0
        have kc1 : F2 (b + 103) = some (.inr (6, 60, kfv)) := (hag9 _ (by omega)).trans kc1
        have kc2 : F2 (b + 104) = some (.inr (0, 60, fun b9 => .int (nI (kg1 b9)))) := (hag9 _ (by omega)).trans kc2
        have kc3 : F2 (b + 105) = some (.inr (0, 60, fun b9 => .int (nI (kg2 b9)))) := (hag9 _ (by omega)).trans kc3
        have kc4 : F2 (b + 106) = some (.inr (0, 60, fun b9 => .int (nI (kg3 b9)))) := (hag9 _ (by omega)).trans kc4
        have b0 : F2 (b) = some (.inl (9, [.ref (b + 1), .ref (b + 50), .ref (b + 99), .ref (b + 100), .ref (b + 107), .ref (b + 109), .ref (b + 111), .ref (b + 122), .ref (b + 124), .int (nI (sv)), .int (nI (pp + 1)), .int (nI (un1 un)), .int ep, .int fc])) := j0
        have hag : ∀ a9 : Nat, (a9 < b ∨ b + 1 ≤ a9) → (a9 < b + 1 ∨ b + 1 + 49 ≤ a9) → (a9 < b + 109 ∨ b + 109 + 2 ≤ a9) → (a9 < b + 125 ∨ b + 125 + 441 ≤ a9) → F2 a9 = F a9 := fun a9 q0 q1 q2 q3 => (hag9 a9 (by omega)).trans (hag a9 q0 q1 q2 q3)
        have hg_72 := hag9
        clear hag9
        refine x_iconst hC d_MessageCoder_carryOutProgram_75 (v := -1) (by decide) ?_
        refine hret _ _ _ _ _ _ _ d_MessageCoder_carryOutProgram_76 (by decide) (by decide) rfl ?_
        obtain rfl : i = K.1 := by omega
        have x1 : prgP K A pp = pp + 1 := if_pos (by rw [hq])
        have x2 : prgU K A un = un1 un := if_pos (by rw [hq])
        have x3 : prgA K A = B := (if_pos (by rw [hq])).trans (by rw [hq])
        have x4 : prgV K A = -1 := if_pos (by rw [hq])
        exact ⟨_, _, by rw [x4], rfl, by rw [x1, x2]; exact b0, by rw [x3]; exact hs, hbt, hps, p0, ⟨hk60, ⟨kfv, kc1, kh1⟩, ⟨kg1, kc2, kh2⟩, ⟨kg2, kc3, kh3⟩, kg3, kc4, kh4⟩, hag⟩
      · skip
        refine x_aload_n hC d_MessageCoder_carryOutProgram_17 rfl rfl ?_
        refine x_aload_n hC d_MessageCoder_carryOutProgram_18 rfl rfl ?_
        refine x_getf hC kf_MessageCoder_26 b0 rfl d_MessageCoder_carryOutProgram_19 ?_
        refine x_getf hC kf_MessageCoder_457 p0 rfl d_MessageCoder_carryOutProgram_22 ?_
        refine x_iload_n hC d_MessageCoder_carryOutProgram_25 rfl rfl ?_
        refine x_aald hC kc1 (by decide) rfl (j := i) ⟨rfl, by omega, by omega⟩ (x := .ref (cm.2.1 (K.2.1 i))) (kh1 i (by omega)).1 rfl d_MessageCoder_carryOutProgram_26 ?_
        refine x_aload_n hC d_MessageCoder_carryOutProgram_27 rfl rfl ?_
        refine x_getf hC kf_MessageCoder_26 b0 rfl d_MessageCoder_carryOutProgram_28 ?_
        refine x_getf hC kf_MessageCoder_461 p0 rfl d_MessageCoder_carryOutProgram_31 ?_
        refine x_iload_n hC d_MessageCoder_carryOutProgram_34 rfl rfl ?_
        refine x_iald hC kc2 (j := i) ⟨rfl, by omega, by omega⟩ (x := nI (K.2.2.1 i)) (congrArg nI (kh2 i (by omega))) d_MessageCoder_carryOutProgram_35 ?_
        refine x_aload_n hC d_MessageCoder_carryOutProgram_36 rfl rfl ?_
        refine x_getf hC kf_MessageCoder_26 b0 rfl d_MessageCoder_carryOutProgram_37 ?_
        refine x_getf hC kf_MessageCoder_464 p0 rfl d_MessageCoder_carryOutProgram_40 ?_
        refine x_iload_n hC d_MessageCoder_carryOutProgram_43 rfl rfl ?_
        refine x_iald hC kc3 (j := i) ⟨rfl, by omega, by omega⟩ (x := nI (K.2.2.2.1 i)) (congrArg nI (kh3 i (by omega))) d_MessageCoder_carryOutProgram_44 ?_
        refine x_callV hC kv_MessageCoder_407 (c_MessageCoder_performG (b0 := b0) (hs := hs) (hbt := hbt) (hCM := hCM) (hSM := hSM) (hj := (kh1 i (by omega)).2) (hc0 := hKb i (by omega)) (hnx := by omega) (j := K.2.1 i)) b0 rfl rfl (by decide) rfl rfl rfl (Nat.le_of_ble_eq_true rfl) (by decide) d_MessageCoder_carryOutProgram_45 (fun r9 F9 z9 hp9 => ?_)
        obtain ⟨nb1_45, fb1_45, rfl, h9c, j0, j1, hag9⟩ := hp9
        rw [h9c]
        clear h9c z9
        generalize F9 = F3 at *
        have b0 : F3 (b) = some (.inl (9, [.ref (b + 1), .ref (b + 50), .ref (b + 99), .ref (b + 100), .ref (b + 107), .ref (b + 109), .ref (b + 111), .ref (b + 122), .ref (b + 124), .int (nI (sv)), .int (nI (pp)), .int (nI (un)), .int ep, .int fc])) := (hag9 _ (by omega) (by omega)).trans b0
        have hpa : F3 (b + 99) = some (.inr (4, 9, pf)) := (hag9 _ (by omega) (by omega)).trans hpa
        have hps : xPs F3 (b) ((updA past (pp % 9) A)) := xPs_fr hps (fun a9 q1 q2 => hag9 a9 (by omega) (by omega))
        have p0 : F3 (b + 100) = some (.inl (4, [.ref (b + 101), .ref (b + 103), .ref (b + 104), .ref (b + 105), .ref (b + 106), .int (nI (K.1)), .int (nI (cc)), .int (nI (pa)), .int (nI (f1)), .int (nI (f2)), .int (nI (hf))])) := (hag9 _ (by omega) (by omega)).trans p0
        have kc1 : F3 (b + 103) = some (.inr (6, 60, kfv)) := (hag9 _ (by omega) (by omega)).trans kc1
        have kc2 : F3 (b + 104) = some (.inr (0, 60, fun b9 => .int (nI (kg1 b9)))) := (hag9 _ (by omega) (by omega)).trans kc2
        have kc3 : F3 (b + 105) = some (.inr (0, 60, fun b9 => .int (nI (kg2 b9)))) := (hag9 _ (by omega) (by omega)).trans kc3
        have kc4 : F3 (b + 106) = some (.inr (0, 60, fun b9 => .int (nI (kg3 b9)))) := (hag9 _ (by omega) (by omega)).trans kc4
        have hs : xSt F3 (b + 1) ((aDo B (K.2.1 i) (K.2.2.1 i) (K.2.2.2.1 i)).2) := j0
        have hbt : xBt F3 (b + 109) (nb1_45) (fb1_45) := j1
        have hag : ∀ a9 : Nat, (a9 < b ∨ b + 1 ≤ a9) → (a9 < b + 1 ∨ b + 1 + 49 ≤ a9) → (a9 < b + 109 ∨ b + 109 + 2 ≤ a9) → (a9 < b + 125 ∨ b + 125 + 441 ≤ a9) → F3 a9 = F a9 := fun a9 q0 q1 q2 q3 => (hag9 a9 (by omega) (by omega)).trans (hag a9 q0 q1 q2 q3)
        have hg_45 := hag9
        clear hag9
        refine x_if_ge hC d_MessageCoder_carryOutProgram_48 (tgt := 65) (by decide) (fun c_48 => ?_) (fun c_48 => ?_)
        · skip
          have hnx2 := aDo_nx B (K.2.1 i) (K.2.2.1 i) (K.2.2.2.1 i)
          refine x_iinc hC d_MessageCoder_carryOutProgram_65 rfl (v := (nI (i + 1))) (x_incN 1) (Nat.le_of_ble_eq_true rfl) (L1 := [some (.ref b), some (.int (nI (i + 1)))]) rfl ?_
          refine x_goto hC d_MessageCoder_carryOutProgram_68 (tgt := 6) (by decide) ?_
          exact ih_6 F3 (i + 1) ((aDo B (K.2.1 i) (K.2.2.1 i) (K.2.2.2.1 i)).2) (nb1_45) (fb1_45) b0 hs hbt hpa hps p0 kc1 kc2 kc3 kc4 hag (by omega) (prgS_next hq (k2_nlt c_48)) (by omega) (by omega)
        · skip
          refine x_aload_n hC d_MessageCoder_carryOutProgram_51 rfl rfl ?_
          refine x_callV hC kv_MessageCoder_376 (c_MessageCoder_putBackBefore (b0 := b0) (hpa := hpa) (hs := hs) (hps := hps) (hpf := hpf) (hpp := by omega)) b0 rfl rfl (by decide) rfl rfl rfl (Nat.le_of_ble_eq_true rfl) (by decide) d_MessageCoder_carryOutProgram_52 (fun r9 F9 z9 hp9 => ?_)
          obtain ⟨rfl, h9c, j0, hag9⟩ := hp9
          rw [h9c]
          clear h9c z9
          generalize F9 = F4 at *
          have b0 : F4 (b) = some (.inl (9, [.ref (b + 1), .ref (b + 50), .ref (b + 99), .ref (b + 100), .ref (b + 107), .ref (b + 109), .ref (b + 111), .ref (b + 122), .ref (b + 124), .int (nI (sv)), .int (nI (pp)), .int (nI (un)), .int ep, .int fc])) := (hag9 _ (by omega)).trans b0
          have hpa : F4 (b + 99) = some (.inr (4, 9, pf)) := (hag9 _ (by omega)).trans hpa
          have hps : xPs F4 (b) ((updA past (pp % 9) A)) := xPs_fr hps (fun a9 q1 q2 => hag9 a9 (by omega))
          have p0 : F4 (b + 100) = some (.inl (4, [.ref (b + 101), .ref (b + 103), .ref (b + 104), .ref (b + 105), .ref (b + 106), .int (nI (K.1)), .int (nI (cc)), .int (nI (pa)), .int (nI (f1)), .int (nI (f2)), .int (nI (hf))])) := (hag9 _ (by omega)).trans p0
          have kc1 : F4 (b + 103) = some (.inr (6, 60, kfv)) := (hag9 _ (by omega)).trans kc1
          have kc2 : F4 (b + 104) = some (.inr (0, 60, fun b9 => .int (nI (kg1 b9)))) := (hag9 _ (by omega)).trans kc2
          have kc3 : F4 (b + 105) = some (.inr (0, 60, fun b9 => .int (nI (kg2 b9)))) := (hag9 _ (by omega)).trans kc3
          have kc4 : F4 (b + 106) = some (.inr (0, 60, fun b9 => .int (nI (kg3 b9)))) := (hag9 _ (by omega)).trans kc4
          have hbt : xBt F4 (b + 109) (nb1_45) (fb1_45) := xBt_fr hbt (fun a9 q1 q2 => hag9 a9 (by omega))
          have hs : xSt F4 (b + 1) (((updA past (pp % 9) A) (pp % 9))) := j0
          have hag : ∀ a9 : Nat, (a9 < b ∨ b + 1 ≤ a9) → (a9 < b + 1 ∨ b + 1 + 49 ≤ a9) → (a9 < b + 109 ∨ b + 109 + 2 ≤ a9) → (a9 < b + 125 ∨ b + 125 + 441 ≤ a9) → F4 a9 = F a9 := fun a9 q0 q1 q2 q3 => (hag9 a9 (by omega)).trans (hag a9 q0 q1 q2 q3)
          have hg_52 := hag9
          clear hag9
          refine x_aload_n hC d_MessageCoder_carryOutProgram_55 rfl rfl ?_
          refine x_getf hC kf_MessageCoder_26 b0 rfl d_MessageCoder_carryOutProgram_56 ?_
          refine x_getf hC kf_MessageCoder_467 p0 rfl d_MessageCoder_carryOutProgram_59 ?_
          refine x_iload_n hC d_MessageCoder_carryOutProgram_62 rfl rfl ?_
          refine x_iald hC kc4 (j := i) ⟨rfl, by omega, by omega⟩ (x := nI (K.2.2.2.2 i)) (congrArg nI (kh4 i (by omega))) d_MessageCoder_carryOutProgram_63 ?_
          refine hret _ _ _ _ _ _ _ d_MessageCoder_carryOutProgram_64 (by decide) (by decide) rfl ?_
          have e9 := prgS_fail hq (by omega) (k2_lt c_48)
          have hs : xSt F4 (b + 1) A := by rw [updA_eq] at hs; exact hs
          have x1 : prgP K A pp = pp := if_neg (by rw [e9]; exact Bool.false_ne_true)
          have x2 : prgU K A un = un := if_neg (by rw [e9]; exact Bool.false_ne_true)
          have x3 : prgA K A = A := if_neg (by rw [e9]; exact Bool.false_ne_true)
          have x4 : prgV K A = nI (K.2.2.2.2 i) := (if_neg (by rw [e9]; exact Bool.false_ne_true)).trans (by rw [e9])
          exact ⟨_, _, by rw [x4], rfl, by rw [x1, x2]; exact b0, by rw [x3]; exact hs, hbt, hps, p0, ⟨hk60, ⟨kfv, kc1, kh1⟩, ⟨kg1, kc2, kh2⟩, ⟨kg2, kc3, kh3⟩, kg3, kc4, kh4⟩, hag⟩
  exact loop_6 (K.1 - 0 + 1) F1 (0) (A) (nb) (fb9) b0 hs hbt hpa hps p0 kc1 kc2 kc3 kc4 hag (by omega) (rfl) (Nat.le_refl _) (by omega)

