theorem d_Law_build_0 : decode method_20_code 0 = .ok (.iconst 0, 1) := by decide +kernel
theorem d_Law_build_1 : decode method_20_code 1 = .ok (.istore_n 3, 1) := by decide +kernel
theorem d_Law_build_2 : decode method_20_code 2 = .ok (.iload_n 3, 1) := by decide +kernel
theorem d_Law_build_3 : decode method_20_code 3 = .ok (.bipush 8, 2) := by decide +kernel
theorem d_Law_build_5 : decode method_20_code 5 = .ok (.if_icmp .ge 42, 3) := by decide +kernel
theorem d_Law_build_8 : decode method_20_code 8 = .ok (.aload_n 0, 1) := by decide +kernel
theorem d_Law_build_9 : decode method_20_code 9 = .ok (.iload_n 3, 1) := by decide +kernel
theorem d_Law_build_10 : decode method_20_code 10 = .ok (.invokestatic 75, 3) := by decide +kernel
theorem d_Law_build_13 : decode method_20_code 13 = .ok (.iconst 1, 1) := by decide +kernel
theorem d_Law_build_14 : decode method_20_code 14 = .ok (.aload_n 1, 1) := by decide +kernel
theorem d_Law_build_15 : decode method_20_code 15 = .ok (.iload_n 3, 1) := by decide +kernel
theorem d_Law_build_16 : decode method_20_code 16 = .ok (.aload_n 1, 1) := by decide +kernel
theorem d_Law_build_17 : decode method_20_code 17 = .ok (.bipush 8, 2) := by decide +kernel
theorem d_Law_build_19 : decode method_20_code 19 = .ok (.iconst 3, 1) := by decide +kernel
theorem d_Law_build_20 : decode method_20_code 20 = .ok (.invokestatic 78, 3) := by decide +kernel
theorem d_Law_build_23 : decode method_20_code 23 = .ok (.ifCond .ne 8, 3) := by decide +kernel
theorem d_Law_build_26 : decode method_20_code 26 = .ok (.bipush 99, 2) := by decide +kernel
theorem d_Law_build_28 : decode method_20_code 28 = .ok (.goto 5, 3) := by decide +kernel
theorem d_Law_build_31 : decode method_20_code 31 = .ok (.bipush 9, 2) := by decide +kernel
theorem d_Law_build_33 : decode method_20_code 33 = .ok (.invokestatic 78, 3) := by decide +kernel
theorem d_Law_build_36 : decode method_20_code 36 = .ok (.iadd, 1) := by decide +kernel
theorem d_Law_build_37 : decode method_20_code 37 = .ok (.invokestatic 82, 3) := by decide +kernel
theorem d_Law_build_40 : decode method_20_code 40 = .ok (.istore_n 2, 1) := by decide +kernel
theorem d_Law_build_41 : decode method_20_code 41 = .ok (.iinc 3 1, 3) := by decide +kernel
theorem d_Law_build_44 : decode method_20_code 44 = .ok (.goto (-42), 3) := by decide +kernel
theorem d_Law_build_47 : decode method_20_code 47 = .ok (.iconst 0, 1) := by decide +kernel
theorem d_Law_build_48 : decode method_20_code 48 = .ok (.istore_n 3, 1) := by decide +kernel
theorem d_Law_build_49 : decode method_20_code 49 = .ok (.iload_n 3, 1) := by decide +kernel
theorem d_Law_build_50 : decode method_20_code 50 = .ok (.iconst 3, 1) := by decide +kernel
theorem d_Law_build_51 : decode method_20_code 51 = .ok (.if_icmp .ge 75, 3) := by decide +kernel
theorem d_Law_build_54 : decode method_20_code 54 = .ok (.iconst 0, 1) := by decide +kernel
theorem d_Law_build_55 : decode method_20_code 55 = .ok (.istore 4, 2) := by decide +kernel
theorem d_Law_build_57 : decode method_20_code 57 = .ok (.iload 4, 2) := by decide +kernel
theorem d_Law_build_59 : decode method_20_code 59 = .ok (.iconst 1, 1) := by decide +kernel
theorem d_Law_build_60 : decode method_20_code 60 = .ok (.aload_n 1, 1) := by decide +kernel
theorem d_Law_build_61 : decode method_20_code 61 = .ok (.bipush 9, 2) := by decide +kernel
theorem d_Law_build_63 : decode method_20_code 63 = .ok (.iload_n 3, 1) := by decide +kernel
theorem d_Law_build_64 : decode method_20_code 64 = .ok (.iadd, 1) := by decide +kernel
theorem d_Law_build_65 : decode method_20_code 65 = .ok (.bipush 9, 2) := by decide +kernel
theorem d_Law_build_67 : decode method_20_code 67 = .ok (.invokestatic 78, 3) := by decide +kernel
theorem d_Law_build_70 : decode method_20_code 70 = .ok (.iadd, 1) := by decide +kernel
theorem d_Law_build_71 : decode method_20_code 71 = .ok (.if_icmp .ge 33, 3) := by decide +kernel
theorem d_Law_build_74 : decode method_20_code 74 = .ok (.aload_n 0, 1) := by decide +kernel
theorem d_Law_build_75 : decode method_20_code 75 = .ok (.aload_n 1, 1) := by decide +kernel
theorem d_Law_build_76 : decode method_20_code 76 = .ok (.bipush 12, 2) := by decide +kernel
theorem d_Law_build_78 : decode method_20_code 78 = .ok (.bipush 9, 2) := by decide +kernel
theorem d_Law_build_80 : decode method_20_code 80 = .ok (.iload_n 3, 1) := by decide +kernel
theorem d_Law_build_81 : decode method_20_code 81 = .ok (.imul, 1) := by decide +kernel
theorem d_Law_build_82 : decode method_20_code 82 = .ok (.iadd, 1) := by decide +kernel
theorem d_Law_build_83 : decode method_20_code 83 = .ok (.iload 4, 2) := by decide +kernel
theorem d_Law_build_85 : decode method_20_code 85 = .ok (.iadd, 1) := by decide +kernel
theorem d_Law_build_86 : decode method_20_code 86 = .ok (.bipush 64, 2) := by decide +kernel
theorem d_Law_build_88 : decode method_20_code 88 = .ok (.invokestatic 78, 3) := by decide +kernel
theorem d_Law_build_91 : decode method_20_code 91 = .ok (.invokestatic 75, 3) := by decide +kernel
theorem d_Law_build_94 : decode method_20_code 94 = .ok (.invokestatic 85, 3) := by decide +kernel
theorem d_Law_build_97 : decode method_20_code 97 = .ok (.istore_n 2, 1) := by decide +kernel
theorem d_Law_build_98 : decode method_20_code 98 = .ok (.iinc 4 1, 3) := by decide +kernel
theorem d_Law_build_101 : decode method_20_code 101 = .ok (.goto (-44), 3) := by decide +kernel
theorem d_Law_build_104 : decode method_20_code 104 = .ok (.aload_n 0, 1) := by decide +kernel
theorem d_Law_build_105 : decode method_20_code 105 = .ok (.iconst 1, 1) := by decide +kernel
theorem d_Law_build_106 : decode method_20_code 106 = .ok (.aload_n 1, 1) := by decide +kernel
theorem d_Law_build_107 : decode method_20_code 107 = .ok (.bipush 40, 2) := by decide +kernel
theorem d_Law_build_109 : decode method_20_code 109 = .ok (.iload_n 3, 1) := by decide +kernel
theorem d_Law_build_110 : decode method_20_code 110 = .ok (.iadd, 1) := by decide +kernel
theorem d_Law_build_111 : decode method_20_code 111 = .ok (.iconst 5, 1) := by decide +kernel
theorem d_Law_build_112 : decode method_20_code 112 = .ok (.invokestatic 78, 3) := by decide +kernel
theorem d_Law_build_115 : decode method_20_code 115 = .ok (.iadd, 1) := by decide +kernel
theorem d_Law_build_116 : decode method_20_code 116 = .ok (.invokestatic 88, 3) := by decide +kernel
theorem d_Law_build_119 : decode method_20_code 119 = .ok (.istore_n 2, 1) := by decide +kernel
theorem d_Law_build_120 : decode method_20_code 120 = .ok (.iinc 3 1, 3) := by decide +kernel
theorem d_Law_build_123 : decode method_20_code 123 = .ok (.goto (-74), 3) := by decide +kernel
theorem d_Law_build_126 : decode method_20_code 126 = .ok (.iconst 0, 1) := by decide +kernel
theorem d_Law_build_127 : decode method_20_code 127 = .ok (.istore_n 3, 1) := by decide +kernel
theorem d_Law_build_128 : decode method_20_code 128 = .ok (.iload_n 3, 1) := by decide +kernel
theorem d_Law_build_129 : decode method_20_code 129 = .ok (.bipush 14, 2) := by decide +kernel
theorem d_Law_build_131 : decode method_20_code 131 = .ok (.if_icmp .ge 20, 3) := by decide +kernel
theorem d_Law_build_134 : decode method_20_code 134 = .ok (.aload_n 0, 1) := by decide +kernel
theorem d_Law_build_135 : decode method_20_code 135 = .ok (.aload_n 1, 1) := by decide +kernel
theorem d_Law_build_136 : decode method_20_code 136 = .ok (.bipush 44, 2) := by decide +kernel
theorem d_Law_build_138 : decode method_20_code 138 = .ok (.iconst 3, 1) := by decide +kernel
theorem d_Law_build_139 : decode method_20_code 139 = .ok (.iload_n 3, 1) := by decide +kernel
theorem d_Law_build_140 : decode method_20_code 140 = .ok (.imul, 1) := by decide +kernel
theorem d_Law_build_141 : decode method_20_code 141 = .ok (.iadd, 1) := by decide +kernel
theorem d_Law_build_142 : decode method_20_code 142 = .ok (.invokestatic 91, 3) := by decide +kernel
theorem d_Law_build_145 : decode method_20_code 145 = .ok (.iinc 3 1, 3) := by decide +kernel
theorem d_Law_build_148 : decode method_20_code 148 = .ok (.goto (-20), 3) := by decide +kernel
theorem d_Law_build_151 : decode method_20_code 151 = .ok (.return_, 1) := by decide +kernel
set_option maxHeartbeats 4000000 in
set_option maxRecDepth 20000 in
theorem c_Law_build {P : xP} {F : xF} {z : Nat} {b : Nat} {cm : cmT} {sm : Nat} {M : mcS} {a : Nat} {N : Nat} {xs : Nat → Int32} {q : Nat} (hM : xMC F (cm) (b) (M)) (hCM : xCM P cm) (hSM : xSM P sm) (hZx : xZx P) (hNx : xNx P) (hS : xScr P a N xs) (hB : pBd M q) (hq : q ≤ 100) : xM P xy_Law_build [.ref b, .ref a] F (z) 108 648 (fun r9 F9 z9 => ∃ M1 : mcS, ∃ zz : Nat, r9 = none ∧ z9 = zz ∧ xMC F9 (cm) (b) (M1) ∧ (pBd M1 (q + 94)) ∧ (z ≤ zz) ∧ (∀ a9 : Nat, (a9 < b ∨ b + 566 ≤ a9) → F9 a9 = F a9)) := by
  refine xM_v rfl (Nat.le_of_ble_eq_true rfl) (L0 := [some (.ref b), some (.ref a), none, none, none]) rfl rfl fun Θ hC hin hret => ?_
  have hag : ∀ a9 : Nat, (a9 < b ∨ b + 566 ≤ a9) → F a9 = F a9 := fun a9 _ => rfl
  refine x_iconst hC d_Law_build_0 (v := nI 0) (by decide) ?_
  refine x_istore_n hC d_Law_build_1 rfl (Nat.le_of_ble_eq_true rfl) (L1 := [some (.ref b), some (.ref a), none, some (.int (nI 0)), none]) rfl ?_
  have loop_2 : ∀ (m9 : Nat) (Fh2 : xF) (k1 : Nat) (M1 : mcS) (z1 : Nat), (xMC Fh2 (cm) (b) (M1)) → (∀ a9 : Nat, (a9 < b ∨ b + 566 ≤ a9) → Fh2 a9 = F a9) → (k1 ≤ 8) → (pBd M1 (q + k1)) → (z ≤ z1) → (8 - k1 < m9) → xX P Θ 2 [some (.ref b), some (.ref a), none, some (.int (nI (k1))), none] [] Fh2 (z1) k1 (6 * k1) := by
    intro m9
    induction m9 with
    | zero => intros; omega
    | succ m9 ih_2 =>
      intro Fh2 k1 M1 z1 hM hag hk1 hB1 hz1 hm_2
      refine x_iload_n hC d_Law_build_2 rfl rfl ?_
      refine x_bipush hC d_Law_build_3 (v := nI 8) (by decide) ?_
      refine x_icmpN_ge hC d_Law_build_5 (tgt := 47) (by decide) (by omega) (by omega) (fun c_5 => ?_) (fun c_5 => ?_)
      · skip
        refine x_iconst hC d_Law_build_47 (v := nI 0) (by decide) ?_
        refine x_istore_n hC d_Law_build_48 rfl (Nat.le_of_ble_eq_true rfl) (L1 := [some (.ref b), some (.ref a), none, some (.int (nI 0)), none]) rfl ?_
        have loop_49 : ∀ (m9 : Nat) (Fh49 : xF) (k2 : Nat) (M2 : mcS) (z2 : Nat), (xMC Fh49 (cm) (b) (M2)) → (∀ a9 : Nat, (a9 < b ∨ b + 566 ≤ a9) → Fh49 a9 = F a9) → (k2 ≤ 3) → (pBd M2 (q + 8 + 10 * k2)) → (z ≤ z2) → (3 - k2 < m9) → xX P Θ 49 [some (.ref b), some (.ref a), none, some (.int (nI (k2))), none] [] Fh49 (z2) (8 + 10 * k2) (48 + 60 * k2) := by
          intro m9
          induction m9 with
          | zero => intros; omega
          | succ m9 ih_49 =>
            intro Fh49 k2 M2 z2 hM hag hk2 hB2 hz2 hm_49
            refine x_iload_n hC d_Law_build_49 rfl rfl ?_
            refine x_iconst hC d_Law_build_50 (v := nI 3) (by decide) ?_
            refine x_icmpN_ge hC d_Law_build_51 (tgt := 126) (by decide) (by omega) (by omega) (fun c_51 => ?_) (fun c_51 => ?_)
            · skip
              refine x_iconst hC d_Law_build_126 (v := nI 0) (by decide) ?_
              refine x_istore_n hC d_Law_build_127 rfl (Nat.le_of_ble_eq_true rfl) (L1 := [some (.ref b), some (.ref a), none, some (.int (nI 0)), none]) rfl ?_
              have loop_128 : ∀ (m9 : Nat) (Fh128 : xF) (k4 : Nat) (M4 : mcS) (z4 : Nat), (xMC Fh128 (cm) (b) (M4)) → (∀ a9 : Nat, (a9 < b ∨ b + 566 ≤ a9) → Fh128 a9 = F a9) → (k4 ≤ 14) → (pBd M4 (q + 38 + 4 * k4)) → (z ≤ z4) → (14 - k4 < m9) → xX P Θ 128 [some (.ref b), some (.ref a), none, some (.int (nI (k4))), none] [] Fh128 (z4) (38 + 5 * k4) (228 + 30 * k4) := by
                intro m9
                induction m9 with
                | zero => intros; omega
                | succ m9 ih_128 =>
                  intro Fh128 k4 M4 z4 hM hag hk4 hB4 hz4 hm_128
                  refine x_iload_n hC d_Law_build_128 rfl rfl ?_
                  refine x_bipush hC d_Law_build_129 (v := nI 14) (by decide) ?_
                  refine x_icmpN_ge hC d_Law_build_131 (tgt := 151) (by decide) (by omega) (by omega) (fun c_131 => ?_) (fun c_131 => ?_)
                  · skip
                    exact hret _ _ _ _ _ _ d_Law_build_151 (by omega) (by omega) (⟨M4, z4, rfl, rfl, hM, pBd_up hB4 (by omega), by omega, hag⟩)
                  · skip
                    refine x_aload_n hC d_Law_build_134 rfl rfl ?_
                    refine x_aload_n hC d_Law_build_135 rfl rfl ?_
                    refine x_bipush hC d_Law_build_136 (v := nI 44) (by decide) ?_
                    refine x_iconst hC d_Law_build_138 (v := nI 3) (by decide) ?_
                    refine x_iload_n hC d_Law_build_139 rfl rfl ?_
                    refine x_imul hC d_Law_build_140 (v := (nI ((3) * (k4)))) (pk_mul _ _) ?_
                    refine x_iadd hC d_Law_build_141 (v := (nI ((44) + ((3) * (k4))))) (x_addN (by omega)) ?_
                    refine x_callS hC ks_Law_91 (c_Law_acts (hM := hM) (hCM := hCM) (hSM := hSM) (hZx := hZx) (hNx := hNx) (hS := hS) (hB := hB4) (hq := by omega) (hk := by omega) (sm := sm) (N := N) (xs := xs) (q := q + 38 + 4 * k4)) (by decide) rfl rfl rfl (Nat.le_of_ble_eq_true rfl) ⟨by omega, by omega⟩ d_Law_build_142 (fun r9 F9 z9 hp9 => ?_)
                    obtain ⟨M5, z5, rfl, h9c, j0, pk_142, pw_142, hag9⟩ := hp9
                    rw [h9c]
                    clear h9c z9
                    generalize F9 = F1 at *
                    have hM : xMC F1 (cm) (b) (M5) := j0
                    have hag : ∀ a9 : Nat, (a9 < b ∨ b + 566 ≤ a9) → F1 a9 = F a9 := fun a9 q0 => (hag9 a9 (by omega)).trans (hag a9 q0)
                    have hg_142 := hag9
                    clear hag9
                    refine x_iinc hC d_Law_build_145 rfl (v := (nI (k4 + 1))) (x_incN 1) (Nat.le_of_ble_eq_true rfl) (L1 := [some (.ref b), some (.ref a), none, some (.int (nI (k4 + 1))), none]) rfl ?_
                    refine x_goto hC d_Law_build_148 (tgt := 128) (by decide) ?_
                    refine x_widen (k1 := 38 + 5 * (k4 + 1)) (n1 := 228 + 30 * (k4 + 1)) (by omega) (by omega) ?_
                    exact ih_128 F1 (k4 + 1) (M5) (z5) hM hag (by omega) (pBd_up pk_142 (by omega)) (by omega) (by omega)
              refine x_widen (k1 := 38 + 5 * 0) (n1 := 228 + 30 * 0) (by omega) (by omega) ?_
              exact loop_128 (14 - 0 + 1) Fh49 (0) (M2) (z2) hM hag (by omega) (pBd_up hB2 (by omega)) (by omega) (by omega)
            · skip
              refine x_iconst hC d_Law_build_54 (v := nI 0) (by decide) ?_
              refine x_istore hC d_Law_build_55 (Nat.le_of_ble_eq_true rfl) (L1 := [some (.ref b), some (.ref a), none, some (.int (nI (k2))), some (.int (nI 0))]) rfl ?_
              have loop_57 : ∀ (m9 : Nat) (Fh57 : xF) (j : Nat) (M3 : mcS) (z3 : Nat), (xMC Fh57 (cm) (b) (M3)) → (∀ a9 : Nat, (a9 < b ∨ b + 566 ≤ a9) → Fh57 a9 = F a9) → (j ≤ 9) → (pBd M3 (q + 8 + 10 * k2 + j)) → (z ≤ z3) → (9 - j < m9) → xX P Θ 57 [some (.ref b), some (.ref a), none, some (.int (nI (k2))), some (.int (nI (j)))] [] Fh57 (z3) (8 + 10 * k2 + j) (48 + 60 * k2 + 6 * j) := by
                intro m9
                induction m9 with
                | zero => intros; omega
                | succ m9 ih_57 =>
                  intro Fh57 j M3 z3 hM hag hj hB3 hz3 hm_57
                  refine x_iload hC d_Law_build_57 rfl ?_
                  refine x_iconst hC d_Law_build_59 (v := nI 1) (by decide) ?_
                  refine x_aload_n hC d_Law_build_60 rfl rfl ?_
                  refine x_bipush hC d_Law_build_61 (v := nI 9) (by decide) ?_
                  refine x_iload_n hC d_Law_build_63 rfl rfl ?_
                  refine x_iadd hC d_Law_build_64 (v := (nI (9 + k2))) (x_addN (by omega)) ?_
                  refine x_bipush hC d_Law_build_65 (v := nI 9) (by decide) ?_
                  refine x_callS hC ks_Law_78 (c_Law_some (hS := hS) (hk := by omega) (hn := by omega) (N := N) (xs := xs)) (by decide) rfl rfl rfl (Nat.le_of_ble_eq_true rfl) ⟨by omega, by omega⟩ d_Law_build_67 (fun r9 F9 z9 hp9 => ?_)
                  obtain ⟨rfl, h9b, h9c⟩ := hp9
                  rw [h9b, h9c]
                  clear h9b h9c F9 z9
                  obtain ⟨m0, hm0⟩ : ∃ c9 : Nat, c9 = lsome N xs (9 + k2) 9 := ⟨_, rfl⟩
                  rw [← hm0]
                  have m09 : m0 < 9 := by rw [hm0]; exact Nat.mod_lt _ (by decide)
                  refine x_iadd hC d_Law_build_70 (v := (nI (1 + m0))) (x_addN (by omega)) ?_
                  refine x_icmpN_ge hC d_Law_build_71 (tgt := 104) (by decide) (by omega) (by omega) (fun c_71 => ?_) (fun c_71 => ?_)
                  · skip
                    refine x_aload_n hC d_Law_build_104 rfl rfl ?_
                    refine x_iconst hC d_Law_build_105 (v := nI 1) (by decide) ?_
                    refine x_aload_n hC d_Law_build_106 rfl rfl ?_
                    refine x_bipush hC d_Law_build_107 (v := nI 40) (by decide) ?_
                    refine x_iload_n hC d_Law_build_109 rfl rfl ?_
                    refine x_iadd hC d_Law_build_110 (v := (nI (40 + k2))) (x_addN (by omega)) ?_
                    refine x_iconst hC d_Law_build_111 (v := nI 5) (by decide) ?_
                    refine x_callS hC ks_Law_78 (c_Law_some (hS := hS) (hk := by omega) (hn := by omega) (N := N) (xs := xs)) (by decide) rfl rfl rfl (Nat.le_of_ble_eq_true rfl) ⟨by omega, by omega⟩ d_Law_build_112 (fun r9 F9 z9 hp9 => ?_)
                    obtain ⟨rfl, h9b, h9c⟩ := hp9
                    rw [h9b, h9c]
                    clear h9b h9c F9 z9
                    obtain ⟨p0, hp0⟩ : ∃ c9 : Nat, c9 = lsome N xs (40 + k2) 5 := ⟨_, rfl⟩
                    rw [← hp0]
                    have p09 : p0 < 5 := by rw [hp0]; exact Nat.mod_lt _ (by decide)
                    refine x_iadd hC d_Law_build_115 (v := (nI (1 + p0))) (x_addN (by omega)) ?_
                    refine x_callW hC kw_Law_88 (c_Law_post (hM := hM) (hCM := hCM) (hSM := hSM) (hZx := hZx) (hpp0 := by have := hB3.2.1; omega) (hun0 := by have := hB3.2.2.1; omega) (hnx := by have := hB3.2.2.2.1; omega) (hNx := hNx) (sm := sm)) (by decide) rfl rfl rfl (Nat.le_of_ble_eq_true rfl) ⟨by omega, by omega⟩ d_Law_build_116 (fun r9 F9 z9 hp9 => ?_)
                    obtain ⟨v9_116, zz_116, rfl, h9c, j0, pw_116, hag9⟩ := hp9
                    rw [h9c]
                    clear h9c z9
                    generalize F9 = F2 at *
                    have hM : xMC F2 (cm) (b) ((chgM M3 (aPo M3.1 (nI (1 + p0))))) := j0
                    have hag : ∀ a9 : Nat, (a9 < b ∨ b + 566 ≤ a9) → F2 a9 = F a9 := fun a9 q0 => (hag9 a9 (by omega)).trans (hag a9 q0)
                    have hg_116 := hag9
                    clear hag9
                    refine x_istore_n hC d_Law_build_119 rfl (Nat.le_of_ble_eq_true rfl) (L1 := [some (.ref b), some (.ref a), some (.int v9_116), some (.int (nI (k2))), some (.int (nI (j)))]) rfl ?_
                    refine x_iinc hC d_Law_build_120 rfl (v := (nI (k2 + 1))) (x_incN 1) (Nat.le_of_ble_eq_true rfl) (L1 := [some (.ref b), some (.ref a), some (.int v9_116), some (.int (nI (k2 + 1))), some (.int (nI (j)))]) rfl ?_
                    refine x_goto hC d_Law_build_123 (tgt := 49) (by decide) ?_
                    refine x_forget (L1 := [some (.ref b), some (.ref a), none, some (.int (nI (k2 + 1))), none]) ⟨Or.inr rfl, ⟨Or.inr rfl, ⟨Or.inl rfl, ⟨Or.inr rfl, ⟨Or.inl rfl, trivial⟩⟩⟩⟩⟩ ?_
                    refine x_widen (k1 := 8 + 10 * (k2 + 1)) (n1 := 48 + 60 * (k2 + 1)) (by omega) (by omega) ?_
                    exact ih_49 F2 (k2 + 1) ((chgM M3 (aPo M3.1 (nI (1 + p0))))) (zz_116) hM hag (by omega) (pBd_up (pBd_chg hB3 (pOk_Po hB3.1 _)) (by omega)) (by omega) (by omega)
                  · skip
                    refine x_aload_n hC d_Law_build_74 rfl rfl ?_
                    refine x_aload_n hC d_Law_build_75 rfl rfl ?_
                    refine x_bipush hC d_Law_build_76 (v := nI 12) (by decide) ?_
                    refine x_bipush hC d_Law_build_78 (v := nI 9) (by decide) ?_
                    refine x_iload_n hC d_Law_build_80 rfl rfl ?_
                    refine x_imul hC d_Law_build_81 (v := (nI ((9) * (k2)))) (pk_mul _ _) ?_
                    refine x_iadd hC d_Law_build_82 (v := (nI ((12) + ((9) * (k2))))) (x_addN (by omega)) ?_
                    refine x_iload hC d_Law_build_83 rfl ?_
                    refine x_iadd hC d_Law_build_85 (v := (nI ((12) + ((9) * (k2)) + j))) (x_addN (by omega)) ?_
                    refine x_bipush hC d_Law_build_86 (v := nI 64) (by decide) ?_
                    refine x_callS hC ks_Law_78 (c_Law_some (hS := hS) (hk := by omega) (hn := by omega) (N := N) (xs := xs)) (by decide) rfl rfl rfl (Nat.le_of_ble_eq_true rfl) ⟨by omega, by omega⟩ d_Law_build_88 (fun r9 F9 z9 hp9 => ?_)
                    obtain ⟨rfl, h9b, h9c⟩ := hp9
                    rw [h9b, h9c]
                    clear h9b h9c F9 z9
                    obtain ⟨s0, hs0⟩ : ∃ c9 : Nat, c9 = lsome N xs ((12) + ((9) * (k2)) + j) 64 := ⟨_, rfl⟩
                    rw [← hs0]
                    have s09 : s0 < 64 := by rw [hs0]; exact Nat.mod_lt _ (by decide)
                    refine x_callS hC ks_Law_75 (c_Law_symbol (hv := by omega)) (by decide) rfl rfl rfl (Nat.le_of_ble_eq_true rfl) ⟨by omega, by omega⟩ d_Law_build_91 (fun r9 F9 z9 hp9 => ?_)
                    obtain ⟨rfl, h9b, h9c⟩ := hp9
                    rw [h9b, h9c]
                    clear h9b h9c F9 z9
                    refine x_callW hC kw_Law_85 (c_Law_addSymbol (hM := hM) (hCM := hCM) (hSM := hSM) (hZx := hZx) (hpp0 := by have := hB3.2.1; omega) (hun0 := by have := hB3.2.2.1; omega) (hc0 := by omega) (hNx := hNx) (sm := sm)) (by decide) rfl rfl rfl (Nat.le_of_ble_eq_true rfl) ⟨by omega, by omega⟩ d_Law_build_94 (fun r9 F9 z9 hp9 => ?_)
                    obtain ⟨v9_94, zz_94, rfl, h9c, j0, pw_94, hag9⟩ := hp9
                    rw [h9c]
                    clear h9c z9
                    generalize F9 = F3 at *
                    have hM : xMC F3 (cm) (b) ((chgM M3 (aDr M3.1 (97 + s0 % 8)))) := j0
                    have hag : ∀ a9 : Nat, (a9 < b ∨ b + 566 ≤ a9) → F3 a9 = F a9 := fun a9 q0 => (hag9 a9 (by omega)).trans (hag a9 q0)
                    have hg_94 := hag9
                    clear hag9
                    refine x_istore_n hC d_Law_build_97 rfl (Nat.le_of_ble_eq_true rfl) (L1 := [some (.ref b), some (.ref a), some (.int v9_94), some (.int (nI (k2))), some (.int (nI (j)))]) rfl ?_
                    refine x_iinc hC d_Law_build_98 rfl (v := (nI (j + 1))) (x_incN 1) (Nat.le_of_ble_eq_true rfl) (L1 := [some (.ref b), some (.ref a), some (.int v9_94), some (.int (nI (k2))), some (.int (nI (j + 1)))]) rfl ?_
                    refine x_goto hC d_Law_build_101 (tgt := 57) (by decide) ?_
                    refine x_forget (L1 := [some (.ref b), some (.ref a), none, some (.int (nI (k2))), some (.int (nI (j + 1)))]) ⟨Or.inr rfl, ⟨Or.inr rfl, ⟨Or.inl rfl, ⟨Or.inr rfl, ⟨Or.inr rfl, trivial⟩⟩⟩⟩⟩ ?_
                    refine x_widen (k1 := 8 + 10 * k2 + (j + 1)) (n1 := 48 + 60 * k2 + 6 * (j + 1)) (by omega) (by omega) ?_
                    exact ih_57 F3 (j + 1) ((chgM M3 (aDr M3.1 (97 + s0 % 8)))) (zz_94) hM hag (by omega) (pBd_chg hB3 (pOk_Dr hB3.1 _)) (by omega) (by omega)
              refine x_widen (k1 := 8 + 10 * k2 + 0) (n1 := 48 + 60 * k2 + 6 * 0) (by omega) (by omega) ?_
              exact loop_57 (9 - 0 + 1) Fh49 (0) (M2) (z2) hM hag (by omega) (hB2) (by omega) (by omega)
        refine x_widen (k1 := 8 + 10 * 0) (n1 := 48 + 60 * 0) (by omega) (by omega) ?_
        exact loop_49 (3 - 0 + 1) Fh2 (0) (M1) (z1) hM hag (by omega) (pBd_up hB1 (by omega)) (by omega) (by omega)
      · skip
        refine x_aload_n hC d_Law_build_8 rfl rfl ?_
        refine x_iload_n hC d_Law_build_9 rfl rfl ?_
        refine x_callS hC ks_Law_75 (c_Law_symbol (hv := by omega)) (by decide) rfl rfl rfl (Nat.le_of_ble_eq_true rfl) ⟨by omega, by omega⟩ d_Law_build_10 (fun r9 F9 z9 hp9 => ?_)
        obtain ⟨rfl, h9b, h9c⟩ := hp9
        rw [h9b, h9c]
        clear h9b h9c F9 z9
        refine x_iconst hC d_Law_build_13 (v := nI 1) (by decide) ?_
        refine x_aload_n hC d_Law_build_14 rfl rfl ?_
        refine x_iload_n hC d_Law_build_15 rfl rfl ?_
        refine x_aload_n hC d_Law_build_16 rfl rfl ?_
        refine x_bipush hC d_Law_build_17 (v := nI 8) (by decide) ?_
        refine x_iconst hC d_Law_build_19 (v := nI 3) (by decide) ?_
        refine x_callS hC ks_Law_78 (c_Law_some (hS := hS) (hk := by omega) (hn := by omega) (N := N) (xs := xs)) (by decide) rfl rfl rfl (Nat.le_of_ble_eq_true rfl) ⟨by omega, by omega⟩ d_Law_build_20 (fun r9 F9 z9 hp9 => ?_)
        obtain ⟨rfl, h9b, h9c⟩ := hp9
        rw [h9b, h9c]
        clear h9b h9c F9 z9
        obtain ⟨r0, hr0⟩ : ∃ c9 : Nat, c9 = lsome N xs 8 3 := ⟨_, rfl⟩
        rw [← hr0]
        have r09 : r0 < 3 := by rw [hr0]; exact Nat.mod_lt _ (by decide)
        refine x_ifN_ne hC d_Law_build_23 (tgt := 31) (by decide) (by omega) (fun c_23 => ?_) (fun c_23 => ?_)
        · skip
          refine x_bipush hC d_Law_build_31 (v := nI 9) (by decide) ?_
          refine x_callS hC ks_Law_78 (c_Law_some (hS := hS) (hk := by omega) (hn := by omega) (N := N) (xs := xs)) (by decide) rfl rfl rfl (Nat.le_of_ble_eq_true rfl) ⟨by omega, by omega⟩ d_Law_build_33 (fun r9 F9 z9 hp9 => ?_)
          obtain ⟨rfl, h9b, h9c⟩ := hp9
          rw [h9b, h9c]
          clear h9b h9c F9 z9
          refine x_iadd hC d_Law_build_36 (v := (nI ((1) + (lsome N xs k1 9)))) (x_addN (by omega)) ?_
          refine x_callW hC kw_Law_82 (c_Law_setWeight (hM := hM) (hCM := hCM) (hSM := hSM) (hZx := hZx) (hpp0 := by have := hB1.2.1; omega) (hun0 := by have := hB1.2.2.1; omega) (hc0 := by omega) (hNx := hNx) (sm := sm)) (by decide) rfl rfl rfl (Nat.le_of_ble_eq_true rfl) ⟨by omega, by omega⟩ d_Law_build_37 (fun r9 F9 z9 hp9 => ?_)
          obtain ⟨v9_37, zz_37, rfl, h9c, j0, pw_37, hag9⟩ := hp9
          rw [h9c]
          clear h9c z9
          generalize F9 = F4 at *
          have hM : xMC F4 (cm) (b) ((chgM M1 (aWt M1.1 (97 + k1 % 8) (nI ((1) + (lsome N xs k1 9)))))) := j0
          have hag : ∀ a9 : Nat, (a9 < b ∨ b + 566 ≤ a9) → F4 a9 = F a9 := fun a9 q0 => (hag9 a9 (by omega)).trans (hag a9 q0)
          have hg_37 := hag9
          clear hag9
          refine x_istore_n hC d_Law_build_40 rfl (Nat.le_of_ble_eq_true rfl) (L1 := [some (.ref b), some (.ref a), some (.int v9_37), some (.int (nI (k1))), none]) rfl ?_
          refine x_iinc hC d_Law_build_41 rfl (v := (nI (k1 + 1))) (x_incN 1) (Nat.le_of_ble_eq_true rfl) (L1 := [some (.ref b), some (.ref a), some (.int v9_37), some (.int (nI (k1 + 1))), none]) rfl ?_
          refine x_goto hC d_Law_build_44 (tgt := 2) (by decide) ?_
          refine x_forget (L1 := [some (.ref b), some (.ref a), none, some (.int (nI (k1 + 1))), none]) ⟨Or.inr rfl, ⟨Or.inr rfl, ⟨Or.inl rfl, ⟨Or.inr rfl, ⟨Or.inl rfl, trivial⟩⟩⟩⟩⟩ ?_
          refine x_widen (k1 := (k1 + 1)) (n1 := 6 * (k1 + 1)) (by omega) (by omega) ?_
          exact ih_2 F4 (k1 + 1) ((chgM M1 (aWt M1.1 (97 + k1 % 8) (nI ((1) + (lsome N xs k1 9)))))) (zz_37) hM hag (by omega) (pBd_chg hB1 (pOk_Wt hB1.1 _ _)) (by omega) (by omega)
        · skip
          refine x_bipush hC d_Law_build_26 (v := nI 99) (by decide) ?_
          refine x_goto hC d_Law_build_28 (tgt := 33) (by decide) ?_
          refine x_callS hC ks_Law_78 (c_Law_some (hS := hS) (hk := by omega) (hn := by omega) (N := N) (xs := xs)) (by decide) rfl rfl rfl (Nat.le_of_ble_eq_true rfl) ⟨by omega, by omega⟩ d_Law_build_33 (fun r9 F9 z9 hp9 => ?_)
          obtain ⟨rfl, h9b, h9c⟩ := hp9
          rw [h9b, h9c]
          clear h9b h9c F9 z9
          refine x_iadd hC d_Law_build_36 (v := (nI ((1) + (lsome N xs k1 99)))) (x_addN (by omega)) ?_
          refine x_callW hC kw_Law_82 (c_Law_setWeight (hM := hM) (hCM := hCM) (hSM := hSM) (hZx := hZx) (hpp0 := by have := hB1.2.1; omega) (hun0 := by have := hB1.2.2.1; omega) (hc0 := by omega) (hNx := hNx) (sm := sm)) (by decide) rfl rfl rfl (Nat.le_of_ble_eq_true rfl) ⟨by omega, by omega⟩ d_Law_build_37 (fun r9 F9 z9 hp9 => ?_)
          obtain ⟨v9_37, zz_37, rfl, h9c, j0, pw_37, hag9⟩ := hp9
          rw [h9c]
          clear h9c z9
          generalize F9 = F5 at *
          have hM : xMC F5 (cm) (b) ((chgM M1 (aWt M1.1 (97 + k1 % 8) (nI ((1) + (lsome N xs k1 99)))))) := j0
          have hag : ∀ a9 : Nat, (a9 < b ∨ b + 566 ≤ a9) → F5 a9 = F a9 := fun a9 q0 => (hag9 a9 (by omega)).trans (hag a9 q0)
          have hg_37 := hag9
          clear hag9
          refine x_istore_n hC d_Law_build_40 rfl (Nat.le_of_ble_eq_true rfl) (L1 := [some (.ref b), some (.ref a), some (.int v9_37), some (.int (nI (k1))), none]) rfl ?_
          refine x_iinc hC d_Law_build_41 rfl (v := (nI (k1 + 1))) (x_incN 1) (Nat.le_of_ble_eq_true rfl) (L1 := [some (.ref b), some (.ref a), some (.int v9_37), some (.int (nI (k1 + 1))), none]) rfl ?_
          refine x_goto hC d_Law_build_44 (tgt := 2) (by decide) ?_
          refine x_forget (L1 := [some (.ref b), some (.ref a), none, some (.int (nI (k1 + 1))), none]) ⟨Or.inr rfl, ⟨Or.inr rfl, ⟨Or.inl rfl, ⟨Or.inr rfl, ⟨Or.inl rfl, trivial⟩⟩⟩⟩⟩ ?_
          refine x_widen (k1 := (k1 + 1)) (n1 := 6 * (k1 + 1)) (by omega) (by omega) ?_
          exact ih_2 F5 (k1 + 1) ((chgM M1 (aWt M1.1 (97 + k1 % 8) (nI ((1) + (lsome N xs k1 99)))))) (zz_37) hM hag (by omega) (pBd_chg hB1 (pOk_Wt hB1.1 _ _)) (by omega) (by omega)
  refine x_widen (k1 := 0) (n1 := 6 * 0) (by omega) (by omega) ?_
  exact loop_2 (8 - 0 + 1) F (0) (M) (z) hM hag (by omega) (hB) (Nat.le_refl z) (by omega)

