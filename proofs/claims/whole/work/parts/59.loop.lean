/-! the law: its loop -/
theorem lw_op (v : Int32) : ∃ w, w < 64 ∧ v &&& nI 63 = nI w := pk_andE v (m := nI 63) 6 (by decide)
theorem lw_N3 {N q : Nat} (h : N < 3) (hq : q < 2 ^ 31) : nI N - nI 3 < nI q := by
  have h1 : nI N - nI 3 < 0 := by
    rcases (show N = 0 ∨ N = 1 ∨ N = 2 by omega) with rfl | rfl | rfl <;> decide
  exact Int32.lt_of_lt_of_le h1 (Int32.not_lt.mp (nI_pos hq))
set_option maxHeartbeats 4000000 in
set_option maxRecDepth 20000 in
theorem lw_switch {P : xP} {Θ : xT} {cm : cmT} {a N b sm rt q : Nat} {xs : Nat → Int32} (E : lwE P Θ cm a N b sm rt xs) {F : xF} {z k n th : Nat} {M : mcS} {g : Nat → Int64} {gd : Nat → UInt64} (hM : xMC F (cm) (b) (M)) (hD : xMD F (b + 566) (th) (M)) (ho : F (b + 578) = some (.inr (2, 1, fun b9 => .long (g b9)))) (hod : F (b + 579) = some (.inr (3, 1, fun b9 => .double (gd b9)))) (hJ : lwJ q M) (hq : 3 * q + 3 ≤ N) (hkn : k + 2 ≤ 603072 ∧ n + 12 ≤ 7207018) (kk : lwK P Θ cm a b q k n) {w : Nat} (hw : w < 64) : xX P Θ 44 [some (.ref (a)), some (.ref (b)), some (.ref (b + 566)), some (.ref (b + 578)), some (.ref (b + 579)), some (.int (nI (3 * q))), none, none, none, none] [.int (nI w)] F z k n := by
  have hC := E.1
  by_cases h0 : w = 0
  · rw [h0]
    refine x_tableIn hC d_Law_law_44 (by decide +kernel) (by decide +kernel) (off := 264) (by decide +kernel) (tgt := 308) (by decide) ?_
    exact lc_0 E hM hD ho hod hJ hq hkn kk
  by_cases h1 : w = 1
  · rw [h1]
    refine x_tableIn hC d_Law_law_44 (by decide +kernel) (by decide +kernel) (off := 334) (by decide +kernel) (tgt := 378) (by decide) ?_
    exact lc_1 E hM hD ho hod hJ hq hkn kk
  by_cases h2 : w = 2
  · rw [h2]
    refine x_tableIn hC d_Law_law_44 (by decide +kernel) (by decide +kernel) (off := 392) (by decide +kernel) (tgt := 436) (by decide) ?_
    exact lc_2 E hM hD ho hod hJ hq hkn kk
  by_cases h3 : w = 3
  · rw [h3]
    refine x_tableIn hC d_Law_law_44 (by decide +kernel) (by decide +kernel) (off := 405) (by decide +kernel) (tgt := 449) (by decide) ?_
    exact lc_3 E hM hD ho hod hJ hq hkn kk
  by_cases h4 : w = 4
  · rw [h4]
    refine x_tableIn hC d_Law_law_44 (by decide +kernel) (by decide +kernel) (off := 461) (by decide +kernel) (tgt := 505) (by decide) ?_
    exact lc_4 E hM hD ho hod hJ hq hkn kk
  by_cases h5 : w = 5
  · rw [h5]
    refine x_tableIn hC d_Law_law_44 (by decide +kernel) (by decide +kernel) (off := 517) (by decide +kernel) (tgt := 561) (by decide) ?_
    exact lc_5 E hM hD ho hod hJ hq hkn kk
  by_cases h6 : w = 6
  · rw [h6]
    refine x_tableIn hC d_Law_law_44 (by decide +kernel) (by decide +kernel) (off := 585) (by decide +kernel) (tgt := 629) (by decide) ?_
    exact lc_6 E hM hD ho hod hJ hq hkn kk
  by_cases h7 : w = 7
  · rw [h7]
    refine x_tableIn hC d_Law_law_44 (by decide +kernel) (by decide +kernel) (off := 641) (by decide +kernel) (tgt := 685) (by decide) ?_
    exact lc_7 E hM hD ho hod hJ hq hkn kk
  by_cases h8 : w = 8
  · rw [h8]
    refine x_tableIn hC d_Law_law_44 (by decide +kernel) (by decide +kernel) (off := 685) (by decide +kernel) (tgt := 729) (by decide) ?_
    exact lc_8 E hM hD ho hod hJ hq hkn kk
  by_cases h9 : w = 9
  · rw [h9]
    refine x_tableIn hC d_Law_law_44 (by decide +kernel) (by decide +kernel) (off := 741) (by decide +kernel) (tgt := 785) (by decide) ?_
    exact lc_9 E hM hD ho hod hJ hq hkn kk
  by_cases h10 : w = 10
  · rw [h10]
    refine x_tableIn hC d_Law_law_44 (by decide +kernel) (by decide +kernel) (off := 785) (by decide +kernel) (tgt := 829) (by decide) ?_
    exact lc_10 E hM hD ho hod hJ hq hkn kk
  by_cases h11 : w = 11
  · rw [h11]
    refine x_tableIn hC d_Law_law_44 (by decide +kernel) (by decide +kernel) (off := 843) (by decide +kernel) (tgt := 887) (by decide) ?_
    exact lc_11 E hM hD ho hod hJ hq hkn kk
  by_cases h12 : w = 12
  · rw [h12]
    refine x_tableIn hC d_Law_law_44 (by decide +kernel) (by decide +kernel) (off := 856) (by decide +kernel) (tgt := 900) (by decide) ?_
    exact lc_12 E hM hD ho hod hJ hq hkn kk
  by_cases h13 : w = 13
  · rw [h13]
    refine x_tableIn hC d_Law_law_44 (by decide +kernel) (by decide +kernel) (off := 914) (by decide +kernel) (tgt := 958) (by decide) ?_
    exact lc_13 E hM hD ho hod hJ hq hkn kk
  by_cases h14 : w = 14
  · rw [h14]
    refine x_tableIn hC d_Law_law_44 (by decide +kernel) (by decide +kernel) (off := 972) (by decide +kernel) (tgt := 1016) (by decide) ?_
    exact lc_14 E hM hD ho hod hJ hq hkn kk
  by_cases h15 : w = 15
  · rw [h15]
    refine x_tableIn hC d_Law_law_44 (by decide +kernel) (by decide +kernel) (off := 1028) (by decide +kernel) (tgt := 1072) (by decide) ?_
    exact lc_15 E hM hD ho hod hJ hq hkn kk
  by_cases h16 : w = 16
  · rw [h16]
    refine x_tableIn hC d_Law_law_44 (by decide +kernel) (by decide +kernel) (off := 1041) (by decide +kernel) (tgt := 1085) (by decide) ?_
    exact lc_16 E hM hD ho hod hJ hq hkn kk
  by_cases h17 : w = 17
  · rw [h17]
    refine x_tableIn hC d_Law_law_44 (by decide +kernel) (by decide +kernel) (off := 1054) (by decide +kernel) (tgt := 1098) (by decide) ?_
    exact lc_17 E hM hD ho hod hJ hq hkn kk
  by_cases h18 : w = 18
  · rw [h18]
    refine x_tableIn hC d_Law_law_44 (by decide +kernel) (by decide +kernel) (off := 1067) (by decide +kernel) (tgt := 1111) (by decide) ?_
    exact lc_18 E hM hD ho hod hJ hq hkn kk
  by_cases h19 : w = 19
  · rw [h19]
    refine x_tableIn hC d_Law_law_44 (by decide +kernel) (by decide +kernel) (off := 1080) (by decide +kernel) (tgt := 1124) (by decide) ?_
    exact lc_19 E hM hD ho hod hJ hq hkn kk
  by_cases h20 : w = 20
  · rw [h20]
    refine x_tableIn hC d_Law_law_44 (by decide +kernel) (by decide +kernel) (off := 1121) (by decide +kernel) (tgt := 1165) (by decide) ?_
    exact lc_20 E hM hD ho hod hJ hq hkn kk
  by_cases h21 : w = 21
  · rw [h21]
    refine x_tableIn hC d_Law_law_44 (by decide +kernel) (by decide +kernel) (off := 1134) (by decide +kernel) (tgt := 1178) (by decide) ?_
    exact lc_21 E hM hD ho hod hJ hq hkn kk
  by_cases h22 : w = 22
  · rw [h22]
    refine x_tableIn hC d_Law_law_44 (by decide +kernel) (by decide +kernel) (off := 1190) (by decide +kernel) (tgt := 1234) (by decide) ?_
    exact lc_22 E hM hD ho hod hJ hq hkn kk
  by_cases h23 : w = 23
  · rw [h23]
    refine x_tableIn hC d_Law_law_44 (by decide +kernel) (by decide +kernel) (off := 1203) (by decide +kernel) (tgt := 1247) (by decide) ?_
    exact lc_23 E hM hD ho hod hJ hq hkn kk
  by_cases h24 : w = 24
  · rw [h24]
    refine x_tableIn hC d_Law_law_44 (by decide +kernel) (by decide +kernel) (off := 1216) (by decide +kernel) (tgt := 1260) (by decide) ?_
    exact lc_24 E hM hD ho hod hJ hq hkn kk
  by_cases h25 : w = 25
  · rw [h25]
    refine x_tableIn hC d_Law_law_44 (by decide +kernel) (by decide +kernel) (off := 1272) (by decide +kernel) (tgt := 1316) (by decide) ?_
    exact lc_25 E hM hD ho hod hJ hq hkn kk
  by_cases h26 : w = 26
  · rw [h26]
    refine x_tableIn hC d_Law_law_44 (by decide +kernel) (by decide +kernel) (off := 1328) (by decide +kernel) (tgt := 1372) (by decide) ?_
    exact lc_26 E hM hD ho hod hJ hq hkn kk
  by_cases h27 : w = 27
  · rw [h27]
    refine x_tableIn hC d_Law_law_44 (by decide +kernel) (by decide +kernel) (off := 1384) (by decide +kernel) (tgt := 1428) (by decide) ?_
    exact lc_27 E hM hD ho hod hJ hq hkn kk
  by_cases h28 : w = 28
  · rw [h28]
    refine x_tableIn hC d_Law_law_44 (by decide +kernel) (by decide +kernel) (off := 1452) (by decide +kernel) (tgt := 1496) (by decide) ?_
    exact lc_28 E hM hD ho hod hJ hq hkn kk
  by_cases h29 : w = 29
  · rw [h29]
    refine x_tableIn hC d_Law_law_44 (by decide +kernel) (by decide +kernel) (off := 1522) (by decide +kernel) (tgt := 1566) (by decide) ?_
    exact lc_29 E hM hD ho hod hJ hq hkn kk
  by_cases h30 : w = 30
  · rw [h30]
    refine x_tableIn hC d_Law_law_44 (by decide +kernel) (by decide +kernel) (off := 1578) (by decide +kernel) (tgt := 1622) (by decide) ?_
    exact lc_30 E hM hD ho hod hJ hq hkn kk
  by_cases h31 : w = 31
  · rw [h31]
    refine x_tableIn hC d_Law_law_44 (by decide +kernel) (by decide +kernel) (off := 1646) (by decide +kernel) (tgt := 1690) (by decide) ?_
    exact lc_31 E hM hD ho hod hJ hq hkn kk
  by_cases h32 : w = 32
  · rw [h32]
    refine x_tableIn hC d_Law_law_44 (by decide +kernel) (by decide +kernel) (off := 1702) (by decide +kernel) (tgt := 1746) (by decide) ?_
    exact lc_32 E hM hD ho hod hJ hq hkn kk
  by_cases h33 : w = 33
  · rw [h33]
    refine x_tableIn hC d_Law_law_44 (by decide +kernel) (by decide +kernel) (off := 1758) (by decide +kernel) (tgt := 1802) (by decide) ?_
    exact lc_33 E hM hD ho hod hJ hq hkn kk
  by_cases h34 : w = 34
  · rw [h34]
    refine x_tableIn hC d_Law_law_44 (by decide +kernel) (by decide +kernel) (off := 1833) (by decide +kernel) (tgt := 1877) (by decide) ?_
    exact lc_34 E hM hD ho hod hJ hq hkn kk
  by_cases h35 : w = 35
  · rw [h35]
    refine x_tableIn hC d_Law_law_44 (by decide +kernel) (by decide +kernel) (off := 1901) (by decide +kernel) (tgt := 1945) (by decide) ?_
    exact lc_35 E hM hD ho hod hJ hq hkn kk
  by_cases h36 : w = 36
  · rw [h36]
    refine x_tableIn hC d_Law_law_44 (by decide +kernel) (by decide +kernel) (off := 1914) (by decide +kernel) (tgt := 1958) (by decide) ?_
    exact lc_36 E hM hD ho hod hJ hq hkn kk
  by_cases h37 : w = 37
  · rw [h37]
    refine x_tableIn hC d_Law_law_44 (by decide +kernel) (by decide +kernel) (off := 1927) (by decide +kernel) (tgt := 1971) (by decide) ?_
    exact lc_37 E hM hD ho hod hJ hq hkn kk
  by_cases h38 : w = 38
  · rw [h38]
    refine x_tableIn hC d_Law_law_44 (by decide +kernel) (by decide +kernel) (off := 1983) (by decide +kernel) (tgt := 2027) (by decide) ?_
    exact lc_38 E hM hD ho hod hJ hq hkn kk
  by_cases h39 : w = 39
  · rw [h39]
    refine x_tableIn hC d_Law_law_44 (by decide +kernel) (by decide +kernel) (off := 2039) (by decide +kernel) (tgt := 2083) (by decide) ?_
    exact lc_39 E hM hD ho hod hJ hq hkn kk
  by_cases h40 : w = 40
  · rw [h40]
    refine x_tableIn hC d_Law_law_44 (by decide +kernel) (by decide +kernel) (off := 2095) (by decide +kernel) (tgt := 2139) (by decide) ?_
    exact lc_40 E hM hD ho hod hJ hq hkn kk
  by_cases h41 : w = 41
  · rw [h41]
    refine x_tableIn hC d_Law_law_44 (by decide +kernel) (by decide +kernel) (off := 2151) (by decide +kernel) (tgt := 2195) (by decide) ?_
    exact lc_41 E hM hD ho hod hJ hq hkn kk
  by_cases h42 : w = 42
  · rw [h42]
    refine x_tableIn hC d_Law_law_44 (by decide +kernel) (by decide +kernel) (off := 2164) (by decide +kernel) (tgt := 2208) (by decide) ?_
    exact lc_42 E hM hD ho hod hJ hq hkn kk
  by_cases h43 : w = 43
  · rw [h43]
    refine x_tableIn hC d_Law_law_44 (by decide +kernel) (by decide +kernel) (off := 2215) (by decide +kernel) (tgt := 2259) (by decide) ?_
    exact lc_43 E hM hD ho hod hJ hq hkn kk
  by_cases h44 : w = 44
  · rw [h44]
    refine x_tableIn hC d_Law_law_44 (by decide +kernel) (by decide +kernel) (off := 2228) (by decide +kernel) (tgt := 2272) (by decide) ?_
    exact lc_44 E hM hD ho hod hJ hq hkn kk
  by_cases h45 : w = 45
  · rw [h45]
    refine x_tableIn hC d_Law_law_44 (by decide +kernel) (by decide +kernel) (off := 2284) (by decide +kernel) (tgt := 2328) (by decide) ?_
    exact lc_45 E hM hD ho hod hJ hq hkn kk
  by_cases h46 : w = 46
  · rw [h46]
    refine x_tableIn hC d_Law_law_44 (by decide +kernel) (by decide +kernel) (off := 2297) (by decide +kernel) (tgt := 2341) (by decide) ?_
    exact lc_46 E hM hD ho hod hJ hq hkn kk
  by_cases h47 : w = 47
  · rw [h47]
    refine x_tableIn hC d_Law_law_44 (by decide +kernel) (by decide +kernel) (off := 2310) (by decide +kernel) (tgt := 2354) (by decide) ?_
    exact lc_47 E hM hD ho hod hJ hq hkn kk
  by_cases h48 : w = 48
  · rw [h48]
    refine x_tableIn hC d_Law_law_44 (by decide +kernel) (by decide +kernel) (off := 2323) (by decide +kernel) (tgt := 2367) (by decide) ?_
    exact lc_48 E hM hD ho hod hJ hq hkn kk
  by_cases h49 : w = 49
  · rw [h49]
    refine x_tableIn hC d_Law_law_44 (by decide +kernel) (by decide +kernel) (off := 2336) (by decide +kernel) (tgt := 2380) (by decide) ?_
    exact lc_49 E hM hD ho hod hJ hq hkn kk
  by_cases h50 : w = 50
  · rw [h50]
    refine x_tableIn hC d_Law_law_44 (by decide +kernel) (by decide +kernel) (off := 2402) (by decide +kernel) (tgt := 2446) (by decide) ?_
    exact lc_50 E hM hD ho hod hJ hq hkn kk
  by_cases h51 : w = 51
  · rw [h51]
    refine x_tableIn hC d_Law_law_44 (by decide +kernel) (by decide +kernel) (off := 2415) (by decide +kernel) (tgt := 2459) (by decide) ?_
    exact lc_51 E hM hD ho hod hJ hq hkn kk
  by_cases h52 : w = 52
  · rw [h52]
    refine x_tableIn hC d_Law_law_44 (by decide +kernel) (by decide +kernel) (off := 2471) (by decide +kernel) (tgt := 2515) (by decide) ?_
    exact lc_52 E hM hD ho hod hJ hq hkn kk
  by_cases h53 : w = 53
  · rw [h53]
    refine x_tableIn hC d_Law_law_44 (by decide +kernel) (by decide +kernel) (off := 2529) (by decide +kernel) (tgt := 2573) (by decide) ?_
    exact lc_53 E hM hD ho hod hJ hq hkn kk
  by_cases h54 : w = 54
  · rw [h54]
    refine x_tableIn hC d_Law_law_44 (by decide +kernel) (by decide +kernel) (off := 2585) (by decide +kernel) (tgt := 2629) (by decide) ?_
    exact lc_54 E hM hD ho hod hJ hq hkn kk
  by_cases h55 : w = 55
  · rw [h55]
    refine x_tableIn hC d_Law_law_44 (by decide +kernel) (by decide +kernel) (off := 2643) (by decide +kernel) (tgt := 2687) (by decide) ?_
    exact lc_55 E hM hD ho hod hJ hq hkn kk
  by_cases h56 : w = 56
  · rw [h56]
    refine x_tableIn hC d_Law_law_44 (by decide +kernel) (by decide +kernel) (off := 2687) (by decide +kernel) (tgt := 2731) (by decide) ?_
    exact lc_56 E hM hD ho hod hJ hq hkn kk
  by_cases h57 : w = 57
  · rw [h57]
    refine x_tableIn hC d_Law_law_44 (by decide +kernel) (by decide +kernel) (off := 2731) (by decide +kernel) (tgt := 2775) (by decide) ?_
    exact lc_57 E hM hD ho hod hJ hq hkn kk
  by_cases h58 : w = 58
  · rw [h58]
    refine x_tableIn hC d_Law_law_44 (by decide +kernel) (by decide +kernel) (off := 2775) (by decide +kernel) (tgt := 2819) (by decide) ?_
    exact lc_58 E hM hD ho hod hJ hq hkn kk
  by_cases h59 : w = 59
  · rw [h59]
    refine x_tableIn hC d_Law_law_44 (by decide +kernel) (by decide +kernel) (off := 2788) (by decide +kernel) (tgt := 2832) (by decide) ?_
    exact lc_59 E hM hD ho hod hJ hq hkn kk
  by_cases h60 : w = 60
  · rw [h60]
    refine x_tableIn hC d_Law_law_44 (by decide +kernel) (by decide +kernel) (off := 2832) (by decide +kernel) (tgt := 2876) (by decide) ?_
    exact lc_60 E hM hD ho hod hJ hq hkn kk
  by_cases h61 : w = 61
  · rw [h61]
    refine x_tableIn hC d_Law_law_44 (by decide +kernel) (by decide +kernel) (off := 2845) (by decide +kernel) (tgt := 2889) (by decide) ?_
    exact lc_61 E hM hD ho hod hJ hq hkn kk
  refine x_tableOut hC d_Law_law_44 (Or.inr (by rw [nI_toInt (by omega)]; omega)) (tgt := 2933) (by decide) ?_
  exact kk _ _ _ _ _ _ _ _ hM hD ho hod (lwJ_s hJ) (by omega) (by omega)
set_option maxHeartbeats 4000000 in
set_option maxRecDepth 20000 in
theorem lw_loop {P : xP} {Θ : xT} {cm : cmT} {a N b sm rt : Nat} {xs : Nat → Int32} (E : lwE P Θ cm a N b sm rt xs) (hend : ∀ (L : List (Option Value)) (F : xF) (z k n : Nat), k ≤ 603072 → n ≤ 7207018 → xX P Θ 2939 L [] F z k n) : ∀ (m9 q : Nat) (F : xF) (z k n th : Nat) (M : mcS) (g : Nat → Int64) (gd : Nat → UInt64), xMC F cm b M → xMD F (b + 566) th M → F (b + 578) = some (.inr (2, 1, fun b9 => .long (g b9))) → F (b + 579) = some (.inr (3, 1, fun b9 => .double (gd b9))) → lwJ q M → k ≤ 1000 + 2 * q → n ≤ 20000 + 12 * q → 3 * q ≤ N + 3 → N + 3 - 3 * q < m9 → xX P Θ 28 [some (.ref (a)), some (.ref (b)), some (.ref (b + 566)), some (.ref (b + 578)), some (.ref (b + 579)), some (.int (nI (3 * q))), none, none, none, none] [] F z k n := by
  obtain ⟨hC, hX, ha, hN, hCM, hSM, hSR, hZx, hNx⟩ := id E
  intro m9
  induction m9 with
  | zero => intros; omega
  | succ m9 ih =>
    intro q F z k n th M g gd hM hD ho hod hJ hk hn hq3 hm
    refine x_iload hC d_Law_law_28 rfl ?_
    refine x_aload_n hC d_Law_law_30 rfl rfl ?_
    refine x_slen hC hX ha d_Law_law_31 ?_
    refine x_iconst hC d_Law_law_32 (v := nI 3) (by decide) ?_
    by_cases hN3 : 3 ≤ N
    · refine x_isub hC d_Law_law_33 (v := nI (N - 3)) (pk_sub hN3) ?_
      refine x_icmpN_gt hC d_Law_law_34 (tgt := 2939) (by decide) (by omega) (by omega) (fun c9 => ?_) (fun c9 => ?_)
      · exact hend _ _ _ _ _ (by omega) (by omega)
      · refine x_aload_n hC d_Law_law_37 rfl rfl ?_
        refine x_iload hC d_Law_law_38 rfl ?_
        refine x_sld hC hX ha (j := 3 * q) ⟨rfl, by omega, by omega⟩ d_Law_law_40 ?_
        refine x_bipush hC d_Law_law_41 (v := nI 63) (by decide) ?_
        obtain ⟨w, hw, hwe⟩ := lw_op (xs (3 * q))
        refine x_iand hC d_Law_law_43 (v := nI w) hwe ?_
        refine lw_switch E hM hD ho hod hJ (by omega) ⟨by omega, by omega⟩ (fun F1 z1 k1 n1 th1 M1 g1 gd1 hM1 hD1 ho1 hod1 hJ1 hk1 hn1 => ?_) hw
        refine x_iinc hC d_Law_law_2933 rfl (v := nI (3 * (q + 1))) ((x_incN 3).trans (congrArg nI (by omega))) (Nat.le_of_ble_eq_true rfl) (L1 := [some (.ref (a)), some (.ref (b)), some (.ref (b + 566)), some (.ref (b + 578)), some (.ref (b + 579)), some (.int (nI (3 * (q + 1)))), none, none, none, none]) rfl ?_
        refine x_goto hC d_Law_law_2936 (tgt := 28) (by decide) ?_
        exact ih (q + 1) F1 z1 k1 n1 th1 M1 g1 gd1 hM1 hD1 ho1 hod1 hJ1 (by omega) (by omega) (by omega) (by omega)
    · refine x_isub hC d_Law_law_33 (v := nI N - nI 3) rfl ?_
      refine x_icmp_gt hC d_Law_law_34 (tgt := 2939) (by decide) (fun c9 => ?_) (fun c9 => ?_)
      · exact hend _ _ _ _ _ (by omega) (by omega)
      · exact absurd (lw_N3 (by omega) (by omega)) c9
