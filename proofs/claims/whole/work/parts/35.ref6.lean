/-! the reference: its changes to the queue and the frame -/
theorem fourB_ext {n : Nat} {f g : Nat → Nat} (h : ∀ j, j < n → f j = g j) (q : Nat) : fourB n f 0 q = fourB n g 0 q := by
  have hz : ∀ q, zbt n f 0 q = zbt n g 0 q := fun q => by
    unfold zbt
    by_cases c : 0 ≤ q ∧ q - 0 < n
    · rw [if_pos c, if_pos c]
      exact h _ c.2
    · rw [if_neg c, if_neg c]
  unfold fourB
  rw [hz, hz, hz, hz]
theorem leG_ext {f g : Nat → Nat} {k p : Nat} (hp : p < k) (hk : k ≤ 8) (h : ∀ q, 34 ≤ q → q < 186 → f q = g q) : ∀ q, 34 ≤ q → q < 34 + 19 * (k - 1) → leG f k p q = leG g k p q := by
  intro q h1 h2
  have e : ∀ u : Nat → Nat, leG u k p q = shf u (34 + 19 * p) (19 * (k - 1 - p)) q := fun u => (updN_ne (by omega)).trans (zer_o (by omega))
  rw [e f, e g]
  by_cases c : 34 + 19 * p ≤ q
  · rw [shf_i (by omega), shf_i (by omega)]
    exact h _ (by omega) (by omega)
  · rw [shf_o (by omega), shf_o (by omega)]
    exact h _ h1 (by omega)

theorem d_MessageCoderModel_posts_0 : decode prog_14_method_35_code 0 = .ok (.iload_n 1, 1) := by decide +kernel
theorem d_MessageCoderModel_posts_1 : decode prog_14_method_35_code 1 = .ok (.iconst 1, 1) := by decide +kernel
theorem d_MessageCoderModel_posts_2 : decode prog_14_method_35_code 2 = .ok (.iconst 5, 1) := by decide +kernel
theorem d_MessageCoderModel_posts_3 : decode prog_14_method_35_code 3 = .ok (.invokestatic 64, 3) := by decide +kernel
theorem d_MessageCoderModel_posts_6 : decode prog_14_method_35_code 6 = .ok (.ifCond .ne 5, 3) := by decide +kernel
theorem d_MessageCoderModel_posts_9 : decode prog_14_method_35_code 9 = .ok (.iconst 1, 1) := by decide +kernel
theorem d_MessageCoderModel_posts_10 : decode prog_14_method_35_code 10 = .ok (.ireturn, 1) := by decide +kernel
theorem d_MessageCoderModel_posts_11 : decode prog_14_method_35_code 11 = .ok (.aload_n 0, 1) := by decide +kernel
theorem d_MessageCoderModel_posts_12 : decode prog_14_method_35_code 12 = .ok (.getfield 9, 3) := by decide +kernel
theorem d_MessageCoderModel_posts_15 : decode prog_14_method_35_code 15 = .ok (.iconst 0, 1) := by decide +kernel
theorem d_MessageCoderModel_posts_16 : decode prog_14_method_35_code 16 = .ok (.iaload, 1) := by decide +kernel
theorem d_MessageCoderModel_posts_17 : decode prog_14_method_35_code 17 = .ok (.ifCond .eq 14, 3) := by decide +kernel
theorem d_MessageCoderModel_posts_20 : decode prog_14_method_35_code 20 = .ok (.aload_n 0, 1) := by decide +kernel
theorem d_MessageCoderModel_posts_21 : decode prog_14_method_35_code 21 = .ok (.getfield 9, 3) := by decide +kernel
theorem d_MessageCoderModel_posts_24 : decode prog_14_method_35_code 24 = .ok (.iconst 1, 1) := by decide +kernel
theorem d_MessageCoderModel_posts_25 : decode prog_14_method_35_code 25 = .ok (.iaload, 1) := by decide +kernel
theorem d_MessageCoderModel_posts_26 : decode prog_14_method_35_code 26 = .ok (.bipush 8, 2) := by decide +kernel
theorem d_MessageCoderModel_posts_28 : decode prog_14_method_35_code 28 = .ok (.if_icmp .ne 5, 3) := by decide +kernel
theorem d_MessageCoderModel_posts_31 : decode prog_14_method_35_code 31 = .ok (.iconst 2, 1) := by decide +kernel
theorem d_MessageCoderModel_posts_32 : decode prog_14_method_35_code 32 = .ok (.ireturn, 1) := by decide +kernel
theorem d_MessageCoderModel_posts_33 : decode prog_14_method_35_code 33 = .ok (.bipush 34, 2) := by decide +kernel
theorem d_MessageCoderModel_posts_35 : decode prog_14_method_35_code 35 = .ok (.bipush 19, 2) := by decide +kernel
theorem d_MessageCoderModel_posts_37 : decode prog_14_method_35_code 37 = .ok (.aload_n 0, 1) := by decide +kernel
theorem d_MessageCoderModel_posts_38 : decode prog_14_method_35_code 38 = .ok (.getfield 9, 3) := by decide +kernel
theorem d_MessageCoderModel_posts_41 : decode prog_14_method_35_code 41 = .ok (.iconst 1, 1) := by decide +kernel
theorem d_MessageCoderModel_posts_42 : decode prog_14_method_35_code 42 = .ok (.iaload, 1) := by decide +kernel
theorem d_MessageCoderModel_posts_43 : decode prog_14_method_35_code 43 = .ok (.imul, 1) := by decide +kernel
theorem d_MessageCoderModel_posts_44 : decode prog_14_method_35_code 44 = .ok (.iadd, 1) := by decide +kernel
theorem d_MessageCoderModel_posts_45 : decode prog_14_method_35_code 45 = .ok (.istore_n 2, 1) := by decide +kernel
theorem d_MessageCoderModel_posts_46 : decode prog_14_method_35_code 46 = .ok (.aload_n 0, 1) := by decide +kernel
theorem d_MessageCoderModel_posts_47 : decode prog_14_method_35_code 47 = .ok (.getfield 9, 3) := by decide +kernel
theorem d_MessageCoderModel_posts_50 : decode prog_14_method_35_code 50 = .ok (.iload_n 2, 1) := by decide +kernel
theorem d_MessageCoderModel_posts_51 : decode prog_14_method_35_code 51 = .ok (.iconst 0, 1) := by decide +kernel
theorem d_MessageCoderModel_posts_52 : decode prog_14_method_35_code 52 = .ok (.iadd, 1) := by decide +kernel
theorem d_MessageCoderModel_posts_53 : decode prog_14_method_35_code 53 = .ok (.aload_n 0, 1) := by decide +kernel
theorem d_MessageCoderModel_posts_54 : decode prog_14_method_35_code 54 = .ok (.getfield 9, 3) := by decide +kernel
theorem d_MessageCoderModel_posts_57 : decode prog_14_method_35_code 57 = .ok (.iconst 2, 1) := by decide +kernel
theorem d_MessageCoderModel_posts_58 : decode prog_14_method_35_code 58 = .ok (.iaload, 1) := by decide +kernel
theorem d_MessageCoderModel_posts_59 : decode prog_14_method_35_code 59 = .ok (.iastore, 1) := by decide +kernel
theorem d_MessageCoderModel_posts_60 : decode prog_14_method_35_code 60 = .ok (.aload_n 0, 1) := by decide +kernel
theorem d_MessageCoderModel_posts_61 : decode prog_14_method_35_code 61 = .ok (.getfield 9, 3) := by decide +kernel
theorem d_MessageCoderModel_posts_64 : decode prog_14_method_35_code 64 = .ok (.iload_n 2, 1) := by decide +kernel
theorem d_MessageCoderModel_posts_65 : decode prog_14_method_35_code 65 = .ok (.iconst 1, 1) := by decide +kernel
theorem d_MessageCoderModel_posts_66 : decode prog_14_method_35_code 66 = .ok (.iadd, 1) := by decide +kernel
theorem d_MessageCoderModel_posts_67 : decode prog_14_method_35_code 67 = .ok (.iload_n 1, 1) := by decide +kernel
theorem d_MessageCoderModel_posts_68 : decode prog_14_method_35_code 68 = .ok (.iastore, 1) := by decide +kernel
theorem d_MessageCoderModel_posts_69 : decode prog_14_method_35_code 69 = .ok (.aload_n 0, 1) := by decide +kernel
theorem d_MessageCoderModel_posts_70 : decode prog_14_method_35_code 70 = .ok (.getfield 9, 3) := by decide +kernel
theorem d_MessageCoderModel_posts_73 : decode prog_14_method_35_code 73 = .ok (.iload_n 2, 1) := by decide +kernel
theorem d_MessageCoderModel_posts_74 : decode prog_14_method_35_code 74 = .ok (.iconst 2, 1) := by decide +kernel
theorem d_MessageCoderModel_posts_75 : decode prog_14_method_35_code 75 = .ok (.iadd, 1) := by decide +kernel
theorem d_MessageCoderModel_posts_76 : decode prog_14_method_35_code 76 = .ok (.aload_n 0, 1) := by decide +kernel
theorem d_MessageCoderModel_posts_77 : decode prog_14_method_35_code 77 = .ok (.getfield 9, 3) := by decide +kernel
theorem d_MessageCoderModel_posts_80 : decode prog_14_method_35_code 80 = .ok (.iconst 0, 1) := by decide +kernel
theorem d_MessageCoderModel_posts_81 : decode prog_14_method_35_code 81 = .ok (.iaload, 1) := by decide +kernel
theorem d_MessageCoderModel_posts_82 : decode prog_14_method_35_code 82 = .ok (.iastore, 1) := by decide +kernel
theorem d_MessageCoderModel_posts_83 : decode prog_14_method_35_code 83 = .ok (.iconst 0, 1) := by decide +kernel
theorem d_MessageCoderModel_posts_84 : decode prog_14_method_35_code 84 = .ok (.istore_n 3, 1) := by decide +kernel
theorem d_MessageCoderModel_posts_85 : decode prog_14_method_35_code 85 = .ok (.iload_n 3, 1) := by decide +kernel
theorem d_MessageCoderModel_posts_86 : decode prog_14_method_35_code 86 = .ok (.bipush 16, 2) := by decide +kernel
theorem d_MessageCoderModel_posts_88 : decode prog_14_method_35_code 88 = .ok (.if_icmp .ge 28, 3) := by decide +kernel
theorem d_MessageCoderModel_posts_91 : decode prog_14_method_35_code 91 = .ok (.aload_n 0, 1) := by decide +kernel
theorem d_MessageCoderModel_posts_92 : decode prog_14_method_35_code 92 = .ok (.getfield 9, 3) := by decide +kernel
theorem d_MessageCoderModel_posts_95 : decode prog_14_method_35_code 95 = .ok (.iload_n 2, 1) := by decide +kernel
theorem d_MessageCoderModel_posts_96 : decode prog_14_method_35_code 96 = .ok (.iconst 3, 1) := by decide +kernel
theorem d_MessageCoderModel_posts_97 : decode prog_14_method_35_code 97 = .ok (.iadd, 1) := by decide +kernel
theorem d_MessageCoderModel_posts_98 : decode prog_14_method_35_code 98 = .ok (.iload_n 3, 1) := by decide +kernel
theorem d_MessageCoderModel_posts_99 : decode prog_14_method_35_code 99 = .ok (.iadd, 1) := by decide +kernel
theorem d_MessageCoderModel_posts_100 : decode prog_14_method_35_code 100 = .ok (.aload_n 0, 1) := by decide +kernel
theorem d_MessageCoderModel_posts_101 : decode prog_14_method_35_code 101 = .ok (.getfield 9, 3) := by decide +kernel
theorem d_MessageCoderModel_posts_104 : decode prog_14_method_35_code 104 = .ok (.bipush 18, 2) := by decide +kernel
theorem d_MessageCoderModel_posts_106 : decode prog_14_method_35_code 106 = .ok (.iload_n 3, 1) := by decide +kernel
theorem d_MessageCoderModel_posts_107 : decode prog_14_method_35_code 107 = .ok (.iadd, 1) := by decide +kernel
theorem d_MessageCoderModel_posts_108 : decode prog_14_method_35_code 108 = .ok (.iaload, 1) := by decide +kernel
theorem d_MessageCoderModel_posts_109 : decode prog_14_method_35_code 109 = .ok (.iastore, 1) := by decide +kernel
theorem d_MessageCoderModel_posts_110 : decode prog_14_method_35_code 110 = .ok (.iinc 3 1, 3) := by decide +kernel
theorem d_MessageCoderModel_posts_113 : decode prog_14_method_35_code 113 = .ok (.goto (-28), 3) := by decide +kernel
theorem d_MessageCoderModel_posts_116 : decode prog_14_method_35_code 116 = .ok (.aload_n 0, 1) := by decide +kernel
theorem d_MessageCoderModel_posts_117 : decode prog_14_method_35_code 117 = .ok (.getfield 9, 3) := by decide +kernel
theorem d_MessageCoderModel_posts_120 : decode prog_14_method_35_code 120 = .ok (.iconst 1, 1) := by decide +kernel
theorem d_MessageCoderModel_posts_121 : decode prog_14_method_35_code 121 = .ok (.dup2, 1) := by decide +kernel
theorem d_MessageCoderModel_posts_122 : decode prog_14_method_35_code 122 = .ok (.iaload, 1) := by decide +kernel
theorem d_MessageCoderModel_posts_123 : decode prog_14_method_35_code 123 = .ok (.iconst 1, 1) := by decide +kernel
theorem d_MessageCoderModel_posts_124 : decode prog_14_method_35_code 124 = .ok (.iadd, 1) := by decide +kernel
theorem d_MessageCoderModel_posts_125 : decode prog_14_method_35_code 125 = .ok (.iastore, 1) := by decide +kernel
theorem d_MessageCoderModel_posts_126 : decode prog_14_method_35_code 126 = .ok (.aload_n 0, 1) := by decide +kernel
theorem d_MessageCoderModel_posts_127 : decode prog_14_method_35_code 127 = .ok (.invokevirtual 135, 3) := by decide +kernel
theorem d_MessageCoderModel_posts_130 : decode prog_14_method_35_code 130 = .ok (.istore_n 3, 1) := by decide +kernel
theorem d_MessageCoderModel_posts_131 : decode prog_14_method_35_code 131 = .ok (.aload_n 0, 1) := by decide +kernel
theorem d_MessageCoderModel_posts_132 : decode prog_14_method_35_code 132 = .ok (.aload_n 0, 1) := by decide +kernel
theorem d_MessageCoderModel_posts_133 : decode prog_14_method_35_code 133 = .ok (.getfield 9, 3) := by decide +kernel
theorem d_MessageCoderModel_posts_136 : decode prog_14_method_35_code 136 = .ok (.iconst 2, 1) := by decide +kernel
theorem d_MessageCoderModel_posts_137 : decode prog_14_method_35_code 137 = .ok (.iaload, 1) := by decide +kernel
theorem d_MessageCoderModel_posts_138 : decode prog_14_method_35_code 138 = .ok (.putfield 61, 3) := by decide +kernel
theorem d_MessageCoderModel_posts_141 : decode prog_14_method_35_code 141 = .ok (.aload_n 0, 1) := by decide +kernel
theorem d_MessageCoderModel_posts_142 : decode prog_14_method_35_code 142 = .ok (.getfield 9, 3) := by decide +kernel
theorem d_MessageCoderModel_posts_145 : decode prog_14_method_35_code 145 = .ok (.iconst 2, 1) := by decide +kernel
theorem d_MessageCoderModel_posts_146 : decode prog_14_method_35_code 146 = .ok (.dup2, 1) := by decide +kernel
theorem d_MessageCoderModel_posts_147 : decode prog_14_method_35_code 147 = .ok (.iaload, 1) := by decide +kernel
theorem d_MessageCoderModel_posts_148 : decode prog_14_method_35_code 148 = .ok (.iconst 1, 1) := by decide +kernel
theorem d_MessageCoderModel_posts_149 : decode prog_14_method_35_code 149 = .ok (.iadd, 1) := by decide +kernel
theorem d_MessageCoderModel_posts_150 : decode prog_14_method_35_code 150 = .ok (.iastore, 1) := by decide +kernel
theorem d_MessageCoderModel_posts_151 : decode prog_14_method_35_code 151 = .ok (.iconst 0, 1) := by decide +kernel
theorem d_MessageCoderModel_posts_152 : decode prog_14_method_35_code 152 = .ok (.ireturn, 1) := by decide +kernel
set_option maxHeartbeats 4000000 in
set_option maxRecDepth 20000 in
theorem c_MessageCoderModel_posts {P : xP} {F : xF} {z : Nat} {m : Nat} {th : Nat} {ch : Nat} {sv : Nat} {rs : Int32} {bm : Nat} {dm : Nat} {lz : Nat} {ty : Nat} {he : Nat} {er : Int32} {ea : Int32} {fa : Int32} {cn : Nat} {g : Nat → Nat} {A : aS} {p : Int32} (o0 : F (m) = some (.inl (10, [.int (nI (th)), .ref (m + 1), .int (nI (ch)), .int (nI (sv)), .int rs, .ref (m + 2), .ref (m + 3), .ref (m + 4), .ref (m + 5), .ref (m + 6), .int (nI (bm)), .ref (m + 7), .int (nI (dm)), .ref (m + 8), .ref (m + 9), .int (nI (lz)), .ref (m + 10), .int (nI (ty)), .int (nI (he)), .int er, .int ea, .int fa, .ref (m + 11), .int (nI (cn))]))) (ga : F (m + 1) = some (.inr (0, 4730, fun b9 => .int (nI (g b9))))) (hr : rRow g A) (hA : aInv A) : xM P xy_MessageCoderModel_posts [.ref m, .int p] F (z) 0 0 (fun r9 F9 z9 => ∃ g1 : Nat → Nat, ∃ rs1 : Int32, r9 = some (.int (nI (codN (aPo A p).1))) ∧ z9 = z ∧ F9 (m) = some (.inl (10, [.int (nI (th)), .ref (m + 1), .int (nI (ch)), .int (nI (sv)), .int rs1, .ref (m + 2), .ref (m + 3), .ref (m + 4), .ref (m + 5), .ref (m + 6), .int (nI (bm)), .ref (m + 7), .int (nI (dm)), .ref (m + 8), .ref (m + 9), .int (nI (lz)), .ref (m + 10), .int (nI (ty)), .int (nI (he)), .int er, .int ea, .int fa, .ref (m + 11), .int (nI (cn))])) ∧ F9 (m + 1) = some (.inr (0, 4730, fun b9 => .int (nI (g1 b9)))) ∧ (rRow g1 (aPo A p).2) ∧ (∀ q, 430 ≤ q → g1 q = g q) ∧ (codN (aPo A p).1 = 0 → rs1 = (aPo A p).1) ∧ (∀ a9 : Nat, (a9 < m ∨ m + 2 ≤ a9) → F9 a9 = F a9)) := by
  refine xM_i .int rfl (Nat.le_of_ble_eq_true rfl) (L0 := [some (.ref m), some (.int p), none, none]) rfl rfl fun Θ hC hret => ?_
  have hag : ∀ a9 : Nat, (a9 < m ∨ m + 2 ≤ a9) → F a9 = F a9 := fun a9 _ => rfl
  obtain ⟨⟨q0, q1, q2, q3, q4, q5, q6, q7, q9⟩, qw, qd, qm, qf, qx, qb⟩ := id hr
  obtain ⟨⟨u1, u2, u3, u4, u5⟩, uw, ud, um, uo, ut, ux, ub, un9⟩ := id hA
  refine x_iload_n hC d_MessageCoderModel_posts_0 rfl rfl ?_
  refine x_iconst hC d_MessageCoderModel_posts_1 (v := nI 1) (by decide) ?_
  refine x_iconst hC d_MessageCoderModel_posts_2 (v := nI 5) (by decide) ?_
  refine x_callS hC ks_MessageCoderModel_64 (c_MessageCoderModel_in ) (by decide) rfl rfl rfl (Nat.le_of_ble_eq_true rfl) (by decide) d_MessageCoderModel_posts_3 (fun r9 F9 z9 hp9 => ?_)
  obtain ⟨rfl, h9b, h9c⟩ := hp9
  rw [h9b, h9c]
  clear h9b h9c F9 z9
  refine x_ifB_ne hC d_MessageCoderModel_posts_6 (tgt := 11) (by decide) (fun c_6 => ?_) (fun c_6 => ?_)
  · skip
    refine x_aload_n hC d_MessageCoderModel_posts_11 rfl rfl ?_
    refine x_getf hC kf_MessageCoderModel_9 o0 rfl d_MessageCoderModel_posts_12 ?_
    refine x_iconst hC d_MessageCoderModel_posts_15 (v := nI 0) (by decide) ?_
    refine x_iald hC ga (j := 0) ⟨rfl, by omega, by omega⟩ (x := nI (A.2.1.1)) (congrArg nI q0) d_MessageCoderModel_posts_16 ?_
    refine x_ifN_eq hC d_MessageCoderModel_posts_17 (tgt := 31) (by decide) (by omega) (fun c_17 => ?_) (fun c_17 => ?_)
    · skip
      refine x_iconst hC d_MessageCoderModel_posts_31 (v := nI 2) (by decide) ?_
      refine hret _ _ _ _ _ _ _ d_MessageCoderModel_posts_32 (by decide) (by decide) rfl ?_
      have e9 : aPo A p = (-2, A) := (if_pos c_6).trans (if_pos (by omega))
      exact ⟨g, rs, by rw [e9]; rfl, rfl, o0, ga, by rw [e9]; exact hr, fun _ _ => rfl, fun h9 => absurd h9 (by rw [e9]; show ¬ codN (-2) = 0; decide), hag⟩
    · skip
      refine x_aload_n hC d_MessageCoderModel_posts_20 rfl rfl ?_
      refine x_getf hC kf_MessageCoderModel_9 o0 rfl d_MessageCoderModel_posts_21 ?_
      refine x_iconst hC d_MessageCoderModel_posts_24 (v := nI 1) (by decide) ?_
      refine x_iald hC ga (j := 1) ⟨rfl, by omega, by omega⟩ (x := nI (A.2.2.1.1)) (congrArg nI q1) d_MessageCoderModel_posts_25 ?_
      refine x_bipush hC d_MessageCoderModel_posts_26 (v := nI 8) (by decide) ?_
      refine x_icmpN_ne hC d_MessageCoderModel_posts_28 (tgt := 33) (by decide) (by omega) (by omega) (fun c_28 => ?_) (fun c_28 => ?_)
      · skip
        have hp1 : nI 1 ≤ p := c_6.1
        have hp5 : p ≤ nI 5 := c_6.2
        obtain ⟨hx0, hx1⟩ := i2n_ge hp1 (by decide)
        have hx5 : p.toNatClampNeg ≤ 5 := i2n_le hx0 hp5 (by decide)
        have hxe := i2n_of hx0
        have hk7 : A.2.2.1.1 < 8 := by omega
        refine x_bipush hC d_MessageCoderModel_posts_33 (v := nI 34) (by decide) ?_
        refine x_bipush hC d_MessageCoderModel_posts_35 (v := nI 19) (by decide) ?_
        refine x_aload_n hC d_MessageCoderModel_posts_37 rfl rfl ?_
        refine x_getf hC kf_MessageCoderModel_9 o0 rfl d_MessageCoderModel_posts_38 ?_
        refine x_iconst hC d_MessageCoderModel_posts_41 (v := nI 1) (by decide) ?_
        refine x_iald hC ga (j := 1) ⟨rfl, by omega, by omega⟩ (x := nI (A.2.2.1.1)) (congrArg nI q1) d_MessageCoderModel_posts_42 ?_
        refine x_imul hC d_MessageCoderModel_posts_43 (v := (nI ((19) * (A.2.2.1.1)))) (pk_mul _ _) ?_
        refine x_iadd hC d_MessageCoderModel_posts_44 (v := (nI ((34) + ((19) * (A.2.2.1.1))))) (x_addN (by omega)) ?_
        refine x_istore_n hC d_MessageCoderModel_posts_45 rfl (Nat.le_of_ble_eq_true rfl) (L1 := [some (.ref m), some (.int p), some (.int (nI ((34) + ((19) * (A.2.2.1.1))))), none]) rfl ?_
        refine x_aload_n hC d_MessageCoderModel_posts_46 rfl rfl ?_
        refine x_getf hC kf_MessageCoderModel_9 o0 rfl d_MessageCoderModel_posts_47 ?_
        refine x_iload_n hC d_MessageCoderModel_posts_50 rfl rfl ?_
        refine x_iconst hC d_MessageCoderModel_posts_51 (v := nI 0) (by decide) ?_
        refine x_iadd hC d_MessageCoderModel_posts_52 (v := (nI ((34) + ((19) * (A.2.2.1.1))))) (x_addN (by omega)) ?_
        refine x_aload_n hC d_MessageCoderModel_posts_53 rfl rfl ?_
        refine x_getf hC kf_MessageCoderModel_9 o0 rfl d_MessageCoderModel_posts_54 ?_
        refine x_iconst hC d_MessageCoderModel_posts_57 (v := nI 2) (by decide) ?_
        refine x_iald hC ga (j := 2) ⟨rfl, by omega, by omega⟩ (x := nI (A.2.2.1.2.1)) (congrArg nI q2) d_MessageCoderModel_posts_58 ?_
        refine x_iast hC ga (j := (34) + ((19) * (A.2.2.1.1))) ⟨rfl, by omega, by omega⟩ d_MessageCoderModel_posts_59 (g1 := fun b9 => nI (updN g ((34) + ((19) * (A.2.2.1.1))) (A.2.2.1.2.1) b9)) (x_updN _ _ _) ?_
        generalize ega1 : updN g ((34) + ((19) * (A.2.2.1.1))) (A.2.2.1.2.1) = ga1
        generalize e2 : xup F (m + 1) (.inr (0, 4730, fun b9 => .int (nI (ga1 b9)))) = F2
        have o0 : F2 (m) = some (.inl (10, [.int (nI (th)), .ref (m + 1), .int (nI (ch)), .int (nI (sv)), .int rs, .ref (m + 2), .ref (m + 3), .ref (m + 4), .ref (m + 5), .ref (m + 6), .int (nI (bm)), .ref (m + 7), .int (nI (dm)), .ref (m + 8), .ref (m + 9), .int (nI (lz)), .ref (m + 10), .int (nI (ty)), .int (nI (he)), .int er, .int ea, .int fa, .ref (m + 11), .int (nI (cn))])) := by rw [← e2]; exact (xup_ne (by omega)).trans o0
        have ga : F2 (m + 1) = some (.inr (0, 4730, fun b9 => .int (nI (ga1 b9)))) := by rw [← e2]; exact xup_eq
        have hag : ∀ a9 : Nat, (a9 < m ∨ m + 2 ≤ a9) → F2 a9 = F a9 := fun a9 q0 => by rw [← e2]; exact (xup_ne (by omega)).trans (hag a9 q0)
        refine x_aload_n hC d_MessageCoderModel_posts_60 rfl rfl ?_
        refine x_getf hC kf_MessageCoderModel_9 o0 rfl d_MessageCoderModel_posts_61 ?_
        refine x_iload_n hC d_MessageCoderModel_posts_64 rfl rfl ?_
        refine x_iconst hC d_MessageCoderModel_posts_65 (v := nI 1) (by decide) ?_
        refine x_iadd hC d_MessageCoderModel_posts_66 (v := (nI ((34) + ((19) * (A.2.2.1.1)) + 1))) (x_addN (by omega)) ?_
        refine x_iload_n hC d_MessageCoderModel_posts_67 rfl rfl ?_
        refine x_top (v := (nI (p.toNatClampNeg))) hxe ?_
        refine x_iast hC ga (j := (34) + ((19) * (A.2.2.1.1)) + 1) ⟨rfl, by omega, by omega⟩ d_MessageCoderModel_posts_68 (g1 := fun b9 => nI (updN ga1 ((34) + ((19) * (A.2.2.1.1)) + 1) (p.toNatClampNeg) b9)) (x_updN _ _ _) ?_
        generalize ega2 : updN ga1 ((34) + ((19) * (A.2.2.1.1)) + 1) (p.toNatClampNeg) = ga2
        generalize e4 : xup F2 (m + 1) (.inr (0, 4730, fun b9 => .int (nI (ga2 b9)))) = F4
        have o0 : F4 (m) = some (.inl (10, [.int (nI (th)), .ref (m + 1), .int (nI (ch)), .int (nI (sv)), .int rs, .ref (m + 2), .ref (m + 3), .ref (m + 4), .ref (m + 5), .ref (m + 6), .int (nI (bm)), .ref (m + 7), .int (nI (dm)), .ref (m + 8), .ref (m + 9), .int (nI (lz)), .ref (m + 10), .int (nI (ty)), .int (nI (he)), .int er, .int ea, .int fa, .ref (m + 11), .int (nI (cn))])) := by rw [← e4]; exact (xup_ne (by omega)).trans o0
        have ga : F4 (m + 1) = some (.inr (0, 4730, fun b9 => .int (nI (ga2 b9)))) := by rw [← e4]; exact xup_eq
        have hag : ∀ a9 : Nat, (a9 < m ∨ m + 2 ≤ a9) → F4 a9 = F a9 := fun a9 q0 => by rw [← e4]; exact (xup_ne (by omega)).trans (hag a9 q0)
        refine x_aload_n hC d_MessageCoderModel_posts_69 rfl rfl ?_
        refine x_getf hC kf_MessageCoderModel_9 o0 rfl d_MessageCoderModel_posts_70 ?_
        refine x_iload_n hC d_MessageCoderModel_posts_73 rfl rfl ?_
        refine x_iconst hC d_MessageCoderModel_posts_74 (v := nI 2) (by decide) ?_
        refine x_iadd hC d_MessageCoderModel_posts_75 (v := (nI ((34) + ((19) * (A.2.2.1.1)) + 2))) (x_addN (by omega)) ?_
        refine x_aload_n hC d_MessageCoderModel_posts_76 rfl rfl ?_
        refine x_getf hC kf_MessageCoderModel_9 o0 rfl d_MessageCoderModel_posts_77 ?_
        refine x_iconst hC d_MessageCoderModel_posts_80 (v := nI 0) (by decide) ?_
        refine x_iald hC ga (j := 0) ⟨rfl, by omega, by omega⟩ (x := nI (A.2.1.1)) (congrArg nI (by rw [← ega2, updN_ne (by omega), ← ega1, updN_ne (by omega)]; exact q0)) d_MessageCoderModel_posts_81 ?_
        refine x_iast hC ga (j := (34) + ((19) * (A.2.2.1.1)) + 2) ⟨rfl, by omega, by omega⟩ d_MessageCoderModel_posts_82 (g1 := fun b9 => nI (updN ga2 ((34) + ((19) * (A.2.2.1.1)) + 2) (A.2.1.1) b9)) (x_updN _ _ _) ?_
        generalize ega3 : updN ga2 ((34) + ((19) * (A.2.2.1.1)) + 2) (A.2.1.1) = ga3
        generalize e6 : xup F4 (m + 1) (.inr (0, 4730, fun b9 => .int (nI (ga3 b9)))) = F6
        have o0 : F6 (m) = some (.inl (10, [.int (nI (th)), .ref (m + 1), .int (nI (ch)), .int (nI (sv)), .int rs, .ref (m + 2), .ref (m + 3), .ref (m + 4), .ref (m + 5), .ref (m + 6), .int (nI (bm)), .ref (m + 7), .int (nI (dm)), .ref (m + 8), .ref (m + 9), .int (nI (lz)), .ref (m + 10), .int (nI (ty)), .int (nI (he)), .int er, .int ea, .int fa, .ref (m + 11), .int (nI (cn))])) := by rw [← e6]; exact (xup_ne (by omega)).trans o0
        have ga : F6 (m + 1) = some (.inr (0, 4730, fun b9 => .int (nI (ga3 b9)))) := by rw [← e6]; exact xup_eq
        have hag : ∀ a9 : Nat, (a9 < m ∨ m + 2 ≤ a9) → F6 a9 = F a9 := fun a9 q0 => by rw [← e6]; exact (xup_ne (by omega)).trans (hag a9 q0)
        refine x_iconst hC d_MessageCoderModel_posts_83 (v := nI 0) (by decide) ?_
        refine x_istore_n hC d_MessageCoderModel_posts_84 rfl (Nat.le_of_ble_eq_true rfl) (L1 := [some (.ref m), some (.int p), some (.int (nI ((34) + ((19) * (A.2.2.1.1))))), some (.int (nI 0))]) rfl ?_
        have loop_85 : ∀ (m9 : Nat) (Fh85 : xF) (i : Nat) (p1 : Nat → Nat), (Fh85 (m) = some (.inl (10, [.int (nI (th)), .ref (m + 1), .int (nI (ch)), .int (nI (sv)), .int rs, .ref (m + 2), .ref (m + 3), .ref (m + 4), .ref (m + 5), .ref (m + 6), .int (nI (bm)), .ref (m + 7), .int (nI (dm)), .ref (m + 8), .ref (m + 9), .int (nI (lz)), .ref (m + 10), .int (nI (ty)), .int (nI (he)), .int er, .int ea, .int fa, .ref (m + 11), .int (nI (cn))]))) → (Fh85 (m + 1) = some (.inr (0, 4730, fun b9 => .int (nI (p1 b9))))) → (∀ a9 : Nat, (a9 < m ∨ m + 2 ≤ a9) → Fh85 a9 = F a9) → (i ≤ 16) → (∀ q, ¬ (37 + 19 * A.2.2.1.1 ≤ q ∧ q < 37 + 19 * A.2.2.1.1 + i) → p1 q = ga3 q) → (∀ j, j < i → p1 (37 + 19 * A.2.2.1.1 + j) = g (18 + j)) → (16 - i < m9) → xX P Θ 85 [some (.ref m), some (.int p), some (.int (nI ((34) + ((19) * (A.2.2.1.1))))), some (.int (nI (i)))] [] Fh85 (z) 0 0 := by
          intro m9
          induction m9 with
          | zero => intros; omega
          | succ m9 ih_85 =>
            intro Fh85 i p1 o0 ga hag hi hpo hpd hm_85
            refine x_iload_n hC d_MessageCoderModel_posts_85 rfl rfl ?_
            refine x_bipush hC d_MessageCoderModel_posts_86 (v := nI 16) (by decide) ?_
            refine x_icmpN_ge hC d_MessageCoderModel_posts_88 (tgt := 116) (by decide) (by omega) (by omega) (fun c_88 => ?_) (fun c_88 => ?_)
            · skip
              have h3 : ∀ q, ¬ (34 + 19 * A.2.2.1.1 ≤ q ∧ q < 53 + 19 * A.2.2.1.1) → p1 q = g q := fun q hq => by rw [hpo q (by omega), ← ega3, updN_ne (by omega), ← ega2, updN_ne (by omega), ← ega1, updN_ne (by omega)]
              refine x_aload_n hC d_MessageCoderModel_posts_116 rfl rfl ?_
              refine x_getf hC kf_MessageCoderModel_9 o0 rfl d_MessageCoderModel_posts_117 ?_
              refine x_iconst hC d_MessageCoderModel_posts_120 (v := nI 1) (by decide) ?_
              refine x_dup2 hC d_MessageCoderModel_posts_121 rfl rfl ?_
              refine x_iald hC ga (j := 1) ⟨rfl, by omega, by omega⟩ (x := nI (A.2.2.1.1)) (congrArg nI ((h3 1 (by omega)).trans q1)) d_MessageCoderModel_posts_122 ?_
              refine x_iconst hC d_MessageCoderModel_posts_123 (v := nI 1) (by decide) ?_
              refine x_iadd hC d_MessageCoderModel_posts_124 (v := (nI (A.2.2.1.1 + 1))) (x_addN (by omega)) ?_
              refine x_iast hC ga (j := 1) ⟨rfl, by omega, by omega⟩ d_MessageCoderModel_posts_125 (g1 := fun b9 => nI (updN p1 (1) (A.2.2.1.1 + 1) b9)) (x_updN _ _ _) ?_
              generalize ega5 : updN p1 (1) (A.2.2.1.1 + 1) = ga5
              generalize e8 : xup Fh85 (m + 1) (.inr (0, 4730, fun b9 => .int (nI (ga5 b9)))) = F8
              have o0 : F8 (m) = some (.inl (10, [.int (nI (th)), .ref (m + 1), .int (nI (ch)), .int (nI (sv)), .int rs, .ref (m + 2), .ref (m + 3), .ref (m + 4), .ref (m + 5), .ref (m + 6), .int (nI (bm)), .ref (m + 7), .int (nI (dm)), .ref (m + 8), .ref (m + 9), .int (nI (lz)), .ref (m + 10), .int (nI (ty)), .int (nI (he)), .int er, .int ea, .int fa, .ref (m + 11), .int (nI (cn))])) := by rw [← e8]; exact (xup_ne (by omega)).trans o0
              have ga : F8 (m + 1) = some (.inr (0, 4730, fun b9 => .int (nI (ga5 b9)))) := by rw [← e8]; exact xup_eq
              have hag : ∀ a9 : Nat, (a9 < m ∨ m + 2 ≤ a9) → F8 a9 = F a9 := fun a9 q0 => by rw [← e8]; exact (xup_ne (by omega)).trans (hag a9 q0)
              refine x_aload_n hC d_MessageCoderModel_posts_126 rfl rfl ?_
              refine x_callV hC kv_MessageCoderModel_135 (c_MessageCoderModel_clears (o0 := o0) (ga := ga)) o0 rfl rfl (by decide) rfl rfl rfl (Nat.le_of_ble_eq_true rfl) (by decide) d_MessageCoderModel_posts_127 (fun r9 F9 z9 hp9 => ?_)
              obtain ⟨rfl, h9c, j0, j1, hag9⟩ := hp9
              rw [h9c]
              clear h9c z9
              generalize F9 = F9 at *
              have o0 : F9 (m) = some (.inl (10, [.int (nI (th)), .ref (m + 1), .int (nI (ch)), .int (nI (sv)), .int (nI (ga5 0)), .ref (m + 2), .ref (m + 3), .ref (m + 4), .ref (m + 5), .ref (m + 6), .int (nI (bm)), .ref (m + 7), .int (nI (dm)), .ref (m + 8), .ref (m + 9), .int (nI (lz)), .ref (m + 10), .int (nI (ty)), .int (nI (he)), .int er, .int ea, .int fa, .ref (m + 11), .int (nI (cn))])) := j0
              have ga : F9 (m + 1) = some (.inr (0, 4730, fun b9 => .int (nI ((clG ga5) b9)))) := j1
              have hag : ∀ a9 : Nat, (a9 < m ∨ m + 2 ≤ a9) → F9 a9 = F a9 := fun a9 q0 => (hag9 a9 (by omega)).trans (hag a9 q0)
              have hg_127 := hag9
              clear hag9
              refine x_istore_n hC d_MessageCoderModel_posts_130 rfl (Nat.le_of_ble_eq_true rfl) (L1 := [some (.ref m), some (.int p), some (.int (nI ((34) + ((19) * (A.2.2.1.1))))), some (.int (nI 0))]) rfl ?_
              refine x_aload_n hC d_MessageCoderModel_posts_131 rfl rfl ?_
              refine x_aload_n hC d_MessageCoderModel_posts_132 rfl rfl ?_
              refine x_getf hC kf_MessageCoderModel_9 o0 rfl d_MessageCoderModel_posts_133 ?_
              refine x_iconst hC d_MessageCoderModel_posts_136 (v := nI 2) (by decide) ?_
              refine x_iald hC ga (j := 2) ⟨rfl, by omega, by omega⟩ (x := nI (A.2.2.1.2.1)) (congrArg nI (by rw [clG_o (by omega), ← ega5, updN_ne (by omega), h3 _ (by omega)]; exact q2)) d_MessageCoderModel_posts_137 ?_
              refine x_putf hC kf_MessageCoderModel_61 o0 (Nat.le_of_ble_eq_true rfl) rfl rfl d_MessageCoderModel_posts_138 (fs1 := [.int (nI (th)), .ref (m + 1), .int (nI (ch)), .int (nI (sv)), .int (nI (A.2.2.1.2.1)), .ref (m + 2), .ref (m + 3), .ref (m + 4), .ref (m + 5), .ref (m + 6), .int (nI (bm)), .ref (m + 7), .int (nI (dm)), .ref (m + 8), .ref (m + 9), .int (nI (lz)), .ref (m + 10), .int (nI (ty)), .int (nI (he)), .int er, .int ea, .int fa, .ref (m + 11), .int (nI (cn))]) rfl ?_
              generalize e10 : xup F9 (m) (.inl (10, [.int (nI (th)), .ref (m + 1), .int (nI (ch)), .int (nI (sv)), .int (nI (A.2.2.1.2.1)), .ref (m + 2), .ref (m + 3), .ref (m + 4), .ref (m + 5), .ref (m + 6), .int (nI (bm)), .ref (m + 7), .int (nI (dm)), .ref (m + 8), .ref (m + 9), .int (nI (lz)), .ref (m + 10), .int (nI (ty)), .int (nI (he)), .int er, .int ea, .int fa, .ref (m + 11), .int (nI (cn))])) = F10
              have o0 : F10 (m) = some (.inl (10, [.int (nI (th)), .ref (m + 1), .int (nI (ch)), .int (nI (sv)), .int (nI (A.2.2.1.2.1)), .ref (m + 2), .ref (m + 3), .ref (m + 4), .ref (m + 5), .ref (m + 6), .int (nI (bm)), .ref (m + 7), .int (nI (dm)), .ref (m + 8), .ref (m + 9), .int (nI (lz)), .ref (m + 10), .int (nI (ty)), .int (nI (he)), .int er, .int ea, .int fa, .ref (m + 11), .int (nI (cn))])) := by rw [← e10]; exact xup_eq
              have ga : F10 (m + 1) = some (.inr (0, 4730, fun b9 => .int (nI ((clG ga5) b9)))) := by rw [← e10]; exact (xup_ne (by omega)).trans ga
              have hag : ∀ a9 : Nat, (a9 < m ∨ m + 2 ≤ a9) → F10 a9 = F a9 := fun a9 q0 => by rw [← e10]; exact (xup_ne (by omega)).trans (hag a9 q0)
              refine x_aload_n hC d_MessageCoderModel_posts_141 rfl rfl ?_
              refine x_getf hC kf_MessageCoderModel_9 o0 rfl d_MessageCoderModel_posts_142 ?_
              refine x_iconst hC d_MessageCoderModel_posts_145 (v := nI 2) (by decide) ?_
              refine x_dup2 hC d_MessageCoderModel_posts_146 rfl rfl ?_
              refine x_iald hC ga (j := 2) ⟨rfl, by omega, by omega⟩ (x := nI (A.2.2.1.2.1)) (congrArg nI (by rw [clG_o (by omega), ← ega5, updN_ne (by omega), h3 _ (by omega)]; exact q2)) d_MessageCoderModel_posts_147 ?_
              refine x_iconst hC d_MessageCoderModel_posts_148 (v := nI 1) (by decide) ?_
              refine x_iadd hC d_MessageCoderModel_posts_149 (v := (nI (A.2.2.1.2.1 + 1))) (x_addN (by omega)) ?_
              refine x_iast hC ga (j := 2) ⟨rfl, by omega, by omega⟩ d_MessageCoderModel_posts_150 (g1 := fun b9 => nI (updN ((clG ga5)) (2) (A.2.2.1.2.1 + 1) b9)) (x_updN _ _ _) ?_
              generalize eg1 : updN ((clG ga5)) (2) (A.2.2.1.2.1 + 1) = g1
              generalize e12 : xup F10 (m + 1) (.inr (0, 4730, fun b9 => .int (nI (g1 b9)))) = F12
              have o0 : F12 (m) = some (.inl (10, [.int (nI (th)), .ref (m + 1), .int (nI (ch)), .int (nI (sv)), .int (nI (A.2.2.1.2.1)), .ref (m + 2), .ref (m + 3), .ref (m + 4), .ref (m + 5), .ref (m + 6), .int (nI (bm)), .ref (m + 7), .int (nI (dm)), .ref (m + 8), .ref (m + 9), .int (nI (lz)), .ref (m + 10), .int (nI (ty)), .int (nI (he)), .int er, .int ea, .int fa, .ref (m + 11), .int (nI (cn))])) := by rw [← e12]; exact (xup_ne (by omega)).trans o0
              have ga : F12 (m + 1) = some (.inr (0, 4730, fun b9 => .int (nI (g1 b9)))) := by rw [← e12]; exact xup_eq
              have hag : ∀ a9 : Nat, (a9 < m ∨ m + 2 ≤ a9) → F12 a9 = F a9 := fun a9 q0 => by rw [← e12]; exact (xup_ne (by omega)).trans (hag a9 q0)
              have hf : ∀ q, 2 < q ∧ ¬ (18 ≤ q ∧ q < 34) ∧ ¬ (34 + 19 * A.2.2.1.1 ≤ q ∧ q < 53 + 19 * A.2.2.1.1) → g1 q = g q := fun q hq => by rw [← eg1, updN_ne (by omega), clG_o (by omega), ← ega5, updN_ne (by omega), h3 q (by omega)]
              have hg1 : ∀ q, 34 + 19 * A.2.2.1.1 ≤ q → g1 q = p1 q := fun q hq => by rw [← eg1, updN_ne (by omega), clG_o (by omega), ← ega5, updN_ne (by omega)]
              have hn1 : g1 (34 + 19 * A.2.2.1.1) = A.2.2.1.2.1 := (hg1 _ (by omega)).trans ((hpo _ (by omega)).trans (by rw [← ega3, updN_ne (by omega), ← ega2, updN_ne (by omega), ← ega1]; exact updN_at (by omega)))
              have hn2 : g1 (34 + 19 * A.2.2.1.1 + 1) = p.toNatClampNeg := (hg1 _ (by omega)).trans ((hpo _ (by omega)).trans (by rw [← ega3, updN_ne (by omega), ← ega2]; exact updN_at (by omega)))
              have hn3 : g1 (34 + 19 * A.2.2.1.1 + 2) = A.2.1.1 := (hg1 _ (by omega)).trans ((hpo _ (by omega)).trans (by rw [← ega3]; exact updN_at (by omega)))
              have hn4 : ∀ j, j < A.2.1.1 → g1 (34 + 19 * A.2.2.1.1 + (3 + j)) + 97 = A.2.1.2 j := fun j hj => by rw [hg1 _ (by omega), show 34 + 19 * A.2.2.1.1 + (3 + j) = 37 + 19 * A.2.2.1.1 + j by omega, hpd j (by omega)]; exact qd j hj
              have kr : rRow g1 (A.1, (0, A.2.1.2), (A.2.2.1.1 + 1, A.2.2.1.2.1 + 1, updA A.2.2.1.2.2 A.2.2.1.1 (A.2.2.1.2.1, p.toNatClampNeg, A.2.1.1, A.2.1.2)), A.2.2.2) := ⟨⟨by rw [← eg1, updN_ne (by omega)]; exact clG_0 _, by rw [← eg1, updN_ne (by omega), clG_o (by omega), ← ega5]; exact updN_eq, by rw [← eg1]; exact updN_eq, (hf 3 (by omega)).trans q3, (hf 4 (by omega)).trans q4, (hf 5 (by omega)).trans q5, (hf 6 (by omega)).trans q6, (hf 7 (by omega)).trans q7, (hf 9 (by omega)).trans q9⟩, fun j (hj : j < 8) => (hf _ (by omega)).trans (qw j hj), fun j hj => absurd hj (Nat.not_lt_zero j), fun i9 (hi9 : i9 < A.2.2.1.1 + 1) => by show rMsg _ (updA _ _ _ i9); by_cases e : i9 = A.2.2.1.1; (rw [e, updA_eq]; exact ⟨hn1, hn2, hn3, hn4⟩); (rw [updA_ne e]; exact rMsg_ext (um i9 (by omega)).2.2.1 (fun q hq => hf _ (by omega)) (qm i9 (by omega))), fun (hk : 0 < A.2.2.2.1.1) => ⟨(hf 8 (by omega)).trans (qf hk).1, fun j hj => ⟨(hf _ (by omega)).trans ((qf hk).2.1 j hj).1, (hf _ (by omega)).trans ((qf hk).2.1 j hj).2⟩, fun j (hj : j < A.2.2.2.1.2.2.1) => by rw [hf _ (by omega)]; exact (qf hk).2.2 j hj⟩, fun j (hj : j < A.2.2.2.2.1.1) => by rw [hf _ (by omega)]; exact qx j hj, fun b (hb : b < A.2.2.2.1.1) p hp => (hf _ (by omega)).trans (qb b hb p hp)⟩
              have ko : ∀ q, 430 ≤ q → g1 q = g q := fun q hq => hf q (by omega)
              refine x_iconst hC d_MessageCoderModel_posts_151 (v := nI 0) (by decide) ?_
              refine hret _ _ _ _ _ _ _ d_MessageCoderModel_posts_152 (by decide) (by decide) rfl ?_
              have e9 : aPo A p = (nI A.2.2.1.2.1, (A.1, (0, A.2.1.2), (A.2.2.1.1 + 1, A.2.2.1.2.1 + 1, updA A.2.2.1.2.2 A.2.2.1.1 (A.2.2.1.2.1, p.toNatClampNeg, A.2.1.1, A.2.1.2)), A.2.2.2)) := (if_pos c_6).trans (if_neg (by omega))
              exact ⟨g1, nI A.2.2.1.2.1, by rw [e9, codN_n (by omega)], rfl, o0, ga, by rw [e9]; exact kr, ko, fun _ => by rw [e9], hag⟩
            · skip
              refine x_aload_n hC d_MessageCoderModel_posts_91 rfl rfl ?_
              refine x_getf hC kf_MessageCoderModel_9 o0 rfl d_MessageCoderModel_posts_92 ?_
              refine x_iload_n hC d_MessageCoderModel_posts_95 rfl rfl ?_
              refine x_iconst hC d_MessageCoderModel_posts_96 (v := nI 3) (by decide) ?_
              refine x_iadd hC d_MessageCoderModel_posts_97 (v := (nI ((34) + ((19) * (A.2.2.1.1)) + 3))) (x_addN (by omega)) ?_
              refine x_iload_n hC d_MessageCoderModel_posts_98 rfl rfl ?_
              refine x_iadd hC d_MessageCoderModel_posts_99 (v := (nI ((34) + ((19) * (A.2.2.1.1)) + 3 + i))) (x_addN (by omega)) ?_
              refine x_aload_n hC d_MessageCoderModel_posts_100 rfl rfl ?_
              refine x_getf hC kf_MessageCoderModel_9 o0 rfl d_MessageCoderModel_posts_101 ?_
              refine x_bipush hC d_MessageCoderModel_posts_104 (v := nI 18) (by decide) ?_
              refine x_iload_n hC d_MessageCoderModel_posts_106 rfl rfl ?_
              refine x_iadd hC d_MessageCoderModel_posts_107 (v := (nI (18 + i))) (x_addN (by omega)) ?_
              refine x_iald hC ga (j := 18 + i) ⟨rfl, by omega, by omega⟩ (x := nI (p1 (18 + i))) rfl d_MessageCoderModel_posts_108 ?_
              refine x_iast hC ga (j := (34) + ((19) * (A.2.2.1.1)) + 3 + i) ⟨rfl, by omega, by omega⟩ d_MessageCoderModel_posts_109 (g1 := fun b9 => nI (updN p1 ((34) + ((19) * (A.2.2.1.1)) + 3 + i) (p1 (18 + i)) b9)) (x_updN _ _ _) ?_
              generalize ega4 : updN p1 ((34) + ((19) * (A.2.2.1.1)) + 3 + i) (p1 (18 + i)) = ga4
              generalize e14 : xup Fh85 (m + 1) (.inr (0, 4730, fun b9 => .int (nI (ga4 b9)))) = F14
              have o0 : F14 (m) = some (.inl (10, [.int (nI (th)), .ref (m + 1), .int (nI (ch)), .int (nI (sv)), .int rs, .ref (m + 2), .ref (m + 3), .ref (m + 4), .ref (m + 5), .ref (m + 6), .int (nI (bm)), .ref (m + 7), .int (nI (dm)), .ref (m + 8), .ref (m + 9), .int (nI (lz)), .ref (m + 10), .int (nI (ty)), .int (nI (he)), .int er, .int ea, .int fa, .ref (m + 11), .int (nI (cn))])) := by rw [← e14]; exact (xup_ne (by omega)).trans o0
              have ga : F14 (m + 1) = some (.inr (0, 4730, fun b9 => .int (nI (ga4 b9)))) := by rw [← e14]; exact xup_eq
              have hag : ∀ a9 : Nat, (a9 < m ∨ m + 2 ≤ a9) → F14 a9 = F a9 := fun a9 q0 => by rw [← e14]; exact (xup_ne (by omega)).trans (hag a9 q0)
              refine x_iinc hC d_MessageCoderModel_posts_110 rfl (v := (nI (i + 1))) (x_incN 1) (Nat.le_of_ble_eq_true rfl) (L1 := [some (.ref m), some (.int p), some (.int (nI ((34) + ((19) * (A.2.2.1.1))))), some (.int (nI (i + 1)))]) rfl ?_
              refine x_goto hC d_MessageCoderModel_posts_113 (tgt := 85) (by decide) ?_
              exact ih_85 F14 (i + 1) (ga4) o0 ga hag (by omega) (fun q hq => by rw [← ega4, updN_ne (by omega)]; exact hpo q (by omega)) (fun j hj => (Nat.lt_or_ge j i).elim (fun q => by rw [← ega4, updN_ne (by omega)]; exact hpd j q) (fun q => by rw [← ega4, updN_at (by omega), show j = i by omega, hpo _ (by omega), ← ega3, updN_ne (by omega), ← ega2, updN_ne (by omega), ← ega1, updN_ne (by omega)])) (by omega)
        exact loop_85 (16 - 0 + 1) F6 (0) (ga3) o0 ga hag (by omega) (fun _ _ => rfl) (fun j hj => absurd hj (by omega)) (by omega)
      · skip
        refine x_iconst hC d_MessageCoderModel_posts_31 (v := nI 2) (by decide) ?_
        refine hret _ _ _ _ _ _ _ d_MessageCoderModel_posts_32 (by decide) (by decide) rfl ?_
        have e9 : aPo A p = (-2, A) := (if_pos c_6).trans (if_pos (by omega))
        exact ⟨g, rs, by rw [e9]; rfl, rfl, o0, ga, by rw [e9]; exact hr, fun _ _ => rfl, fun h9 => absurd h9 (by rw [e9]; show ¬ codN (-2) = 0; decide), hag⟩
  · skip
    refine x_iconst hC d_MessageCoderModel_posts_9 (v := nI 1) (by decide) ?_
    refine hret _ _ _ _ _ _ _ d_MessageCoderModel_posts_10 (by decide) (by decide) rfl ?_
    have e9 : aPo A p = (-1, A) := if_neg c_6
    exact ⟨g, rs, by rw [e9]; rfl, rfl, o0, ga, by rw [e9]; exact hr, fun _ _ => rfl, fun h9 => absurd h9 (by rw [e9]; show ¬ codN (-1) = 0; decide), hag⟩

theorem d_MessageCoderModel_drops_0 : decode prog_14_method_38_code 0 = .ok (.aload_n 0, 1) := by decide +kernel
theorem d_MessageCoderModel_drops_1 : decode prog_14_method_38_code 1 = .ok (.iload_n 1, 1) := by decide +kernel
theorem d_MessageCoderModel_drops_2 : decode prog_14_method_38_code 2 = .ok (.invokevirtual 142, 3) := by decide +kernel
theorem d_MessageCoderModel_drops_5 : decode prog_14_method_38_code 5 = .ok (.ifCond .ne 5, 3) := by decide +kernel
theorem d_MessageCoderModel_drops_8 : decode prog_14_method_38_code 8 = .ok (.iconst 3, 1) := by decide +kernel
theorem d_MessageCoderModel_drops_9 : decode prog_14_method_38_code 9 = .ok (.ireturn, 1) := by decide +kernel
theorem d_MessageCoderModel_drops_10 : decode prog_14_method_38_code 10 = .ok (.aload_n 0, 1) := by decide +kernel
theorem d_MessageCoderModel_drops_11 : decode prog_14_method_38_code 11 = .ok (.aload_n 0, 1) := by decide +kernel
theorem d_MessageCoderModel_drops_12 : decode prog_14_method_38_code 12 = .ok (.iload_n 1, 1) := by decide +kernel
theorem d_MessageCoderModel_drops_13 : decode prog_14_method_38_code 13 = .ok (.invokevirtual 85, 3) := by decide +kernel
theorem d_MessageCoderModel_drops_16 : decode prog_14_method_38_code 16 = .ok (.invokevirtual 145, 3) := by decide +kernel
theorem d_MessageCoderModel_drops_19 : decode prog_14_method_38_code 19 = .ok (.aload_n 0, 1) := by decide +kernel
theorem d_MessageCoderModel_drops_20 : decode prog_14_method_38_code 20 = .ok (.aload_n 0, 1) := by decide +kernel
theorem d_MessageCoderModel_drops_21 : decode prog_14_method_38_code 21 = .ok (.getfield 9, 3) := by decide +kernel
theorem d_MessageCoderModel_drops_24 : decode prog_14_method_38_code 24 = .ok (.iconst 1, 1) := by decide +kernel
theorem d_MessageCoderModel_drops_25 : decode prog_14_method_38_code 25 = .ok (.iaload, 1) := by decide +kernel
theorem d_MessageCoderModel_drops_26 : decode prog_14_method_38_code 26 = .ok (.putfield 61, 3) := by decide +kernel
theorem d_MessageCoderModel_drops_29 : decode prog_14_method_38_code 29 = .ok (.iconst 0, 1) := by decide +kernel
theorem d_MessageCoderModel_drops_30 : decode prog_14_method_38_code 30 = .ok (.ireturn, 1) := by decide +kernel
set_option maxHeartbeats 4000000 in
set_option maxRecDepth 20000 in
theorem c_MessageCoderModel_drops {P : xP} {F : xF} {z : Nat} {m : Nat} {th : Nat} {ch : Nat} {sv : Nat} {rs : Int32} {bm : Nat} {dm : Nat} {lz : Nat} {ty : Nat} {he : Nat} {er : Int32} {ea : Int32} {fa : Int32} {cn : Nat} {g : Nat → Nat} {A : aS} {v : Int32} (o0 : F (m) = some (.inl (10, [.int (nI (th)), .ref (m + 1), .int (nI (ch)), .int (nI (sv)), .int rs, .ref (m + 2), .ref (m + 3), .ref (m + 4), .ref (m + 5), .ref (m + 6), .int (nI (bm)), .ref (m + 7), .int (nI (dm)), .ref (m + 8), .ref (m + 9), .int (nI (lz)), .ref (m + 10), .int (nI (ty)), .int (nI (he)), .int er, .int ea, .int fa, .ref (m + 11), .int (nI (cn))]))) (ga : F (m + 1) = some (.inr (0, 4730, fun b9 => .int (nI (g b9))))) (hr : rRow g A) (hA : aInv A) : xM P xy_MessageCoderModel_drops [.ref m, .int v] F (z) 0 0 (fun r9 F9 z9 => ∃ g1 : Nat → Nat, ∃ rs1 : Int32, r9 = some (.int (nI (codN (aDi A v).1))) ∧ z9 = z ∧ F9 (m) = some (.inl (10, [.int (nI (th)), .ref (m + 1), .int (nI (ch)), .int (nI (sv)), .int rs1, .ref (m + 2), .ref (m + 3), .ref (m + 4), .ref (m + 5), .ref (m + 6), .int (nI (bm)), .ref (m + 7), .int (nI (dm)), .ref (m + 8), .ref (m + 9), .int (nI (lz)), .ref (m + 10), .int (nI (ty)), .int (nI (he)), .int er, .int ea, .int fa, .ref (m + 11), .int (nI (cn))])) ∧ F9 (m + 1) = some (.inr (0, 4730, fun b9 => .int (nI (g1 b9)))) ∧ (rRow g1 (aDi A v).2) ∧ (∀ q, 430 ≤ q → g1 q = g q) ∧ (codN (aDi A v).1 = 0 → rs1 = (aDi A v).1) ∧ (∀ a9 : Nat, (a9 < m ∨ m + 2 ≤ a9) → F9 a9 = F a9)) := by
  refine xM_i .int rfl (Nat.le_of_ble_eq_true rfl) (L0 := [some (.ref m), some (.int v)]) rfl rfl fun Θ hC hret => ?_
  have hag : ∀ a9 : Nat, (a9 < m ∨ m + 2 ≤ a9) → F a9 = F a9 := fun a9 _ => rfl
  obtain ⟨⟨q0, q1, q2, q3, q4, q5, q6, q7, q9⟩, qw, qd, qm, qf, qx, qb⟩ := id hr
  obtain ⟨⟨u1, u2, u3, u4, u5⟩, uw, ud, um, uo, ut, ux, ub, un9⟩ := id hA
  refine x_aload_n hC d_MessageCoderModel_drops_0 rfl rfl ?_
  refine x_iload_n hC d_MessageCoderModel_drops_1 rfl rfl ?_
  refine x_callV hC kv_MessageCoderModel_142 (c_MessageCoderModel_isThere (o0 := o0) (ga := ga) (hr := hr) (hA := hA)) o0 rfl rfl (by decide) rfl rfl rfl (Nat.le_of_ble_eq_true rfl) (by decide) d_MessageCoderModel_drops_2 (fun r9 F9 z9 hp9 => ?_)
  obtain ⟨rfl, h9b, h9c⟩ := hp9
  rw [h9b, h9c]
  clear h9b h9c F9 z9
  refine x_ifB_ne hC d_MessageCoderModel_drops_5 (tgt := 10) (by decide) (fun c_5 => ?_) (fun c_5 => ?_)
  · skip
    have hp : mIx A v < A.2.2.1.1 := c_5
    refine x_aload_n hC d_MessageCoderModel_drops_10 rfl rfl ?_
    refine x_aload_n hC d_MessageCoderModel_drops_11 rfl rfl ?_
    refine x_iload_n hC d_MessageCoderModel_drops_12 rfl rfl ?_
    refine x_callV hC kv_MessageCoderModel_85 (c_MessageCoderModel_place (o0 := o0) (ga := ga) (hr := hr) (hA := hA)) o0 rfl rfl (by decide) rfl rfl rfl (Nat.le_of_ble_eq_true rfl) (by decide) d_MessageCoderModel_drops_13 (fun r9 F9 z9 hp9 => ?_)
    obtain ⟨rfl, h9b, h9c⟩ := hp9
    rw [h9b, h9c]
    clear h9b h9c F9 z9
    refine x_top (v := (nI (mIx A v))) (plc_of hp) ?_
    refine x_callV hC kv_MessageCoderModel_145 (c_MessageCoderModel_leaves (o0 := o0) (ga := ga) (hk := q1) (hp := hp) (hk8 := by omega) (k := A.2.2.1.1)) o0 rfl rfl (by decide) rfl rfl rfl (Nat.le_of_ble_eq_true rfl) (by decide) d_MessageCoderModel_drops_16 (fun r9 F9 z9 hp9 => ?_)
    obtain ⟨rfl, h9c, j0, j1, hag9⟩ := hp9
    rw [h9c]
    clear h9c z9
    generalize F9 = F1 at *
    have o0 : F1 (m) = some (.inl (10, [.int (nI (th)), .ref (m + 1), .int (nI (ch)), .int (nI (sv)), .int rs, .ref (m + 2), .ref (m + 3), .ref (m + 4), .ref (m + 5), .ref (m + 6), .int (nI (bm)), .ref (m + 7), .int (nI (dm)), .ref (m + 8), .ref (m + 9), .int (nI (lz)), .ref (m + 10), .int (nI (ty)), .int (nI (he)), .int er, .int ea, .int fa, .ref (m + 11), .int (nI (cn))])) := j0
    have ga : F1 (m + 1) = some (.inr (0, 4730, fun b9 => .int (nI ((leG g (A.2.2.1.1) (mIx A v)) b9)))) := j1
    have hag : ∀ a9 : Nat, (a9 < m ∨ m + 2 ≤ a9) → F1 a9 = F a9 := fun a9 q0 => (hag9 a9 (by omega)).trans (hag a9 q0)
    have hg_16 := hag9
    clear hag9
    refine x_aload_n hC d_MessageCoderModel_drops_19 rfl rfl ?_
    refine x_aload_n hC d_MessageCoderModel_drops_20 rfl rfl ?_
    refine x_getf hC kf_MessageCoderModel_9 o0 rfl d_MessageCoderModel_drops_21 ?_
    refine x_iconst hC d_MessageCoderModel_drops_24 (v := nI 1) (by decide) ?_
    refine x_iald hC ga (j := 1) ⟨rfl, by omega, by omega⟩ (x := nI (A.2.2.1.1 - 1)) (congrArg nI (leG_1 _ _ _)) d_MessageCoderModel_drops_25 ?_
    refine x_putf hC kf_MessageCoderModel_61 o0 (Nat.le_of_ble_eq_true rfl) rfl rfl d_MessageCoderModel_drops_26 (fs1 := [.int (nI (th)), .ref (m + 1), .int (nI (ch)), .int (nI (sv)), .int (nI (A.2.2.1.1 - 1)), .ref (m + 2), .ref (m + 3), .ref (m + 4), .ref (m + 5), .ref (m + 6), .int (nI (bm)), .ref (m + 7), .int (nI (dm)), .ref (m + 8), .ref (m + 9), .int (nI (lz)), .ref (m + 10), .int (nI (ty)), .int (nI (he)), .int er, .int ea, .int fa, .ref (m + 11), .int (nI (cn))]) rfl ?_
    generalize e2 : xup F1 (m) (.inl (10, [.int (nI (th)), .ref (m + 1), .int (nI (ch)), .int (nI (sv)), .int (nI (A.2.2.1.1 - 1)), .ref (m + 2), .ref (m + 3), .ref (m + 4), .ref (m + 5), .ref (m + 6), .int (nI (bm)), .ref (m + 7), .int (nI (dm)), .ref (m + 8), .ref (m + 9), .int (nI (lz)), .ref (m + 10), .int (nI (ty)), .int (nI (he)), .int er, .int ea, .int fa, .ref (m + 11), .int (nI (cn))])) = F2
    have o0 : F2 (m) = some (.inl (10, [.int (nI (th)), .ref (m + 1), .int (nI (ch)), .int (nI (sv)), .int (nI (A.2.2.1.1 - 1)), .ref (m + 2), .ref (m + 3), .ref (m + 4), .ref (m + 5), .ref (m + 6), .int (nI (bm)), .ref (m + 7), .int (nI (dm)), .ref (m + 8), .ref (m + 9), .int (nI (lz)), .ref (m + 10), .int (nI (ty)), .int (nI (he)), .int er, .int ea, .int fa, .ref (m + 11), .int (nI (cn))])) := by rw [← e2]; exact xup_eq
    have ga : F2 (m + 1) = some (.inr (0, 4730, fun b9 => .int (nI ((leG g (A.2.2.1.1) (mIx A v)) b9)))) := by rw [← e2]; exact (xup_ne (by omega)).trans ga
    have hag : ∀ a9 : Nat, (a9 < m ∨ m + 2 ≤ a9) → F2 a9 = F a9 := fun a9 q0 => by rw [← e2]; exact (xup_ne (by omega)).trans (hag a9 q0)
    have hf : ∀ q, q ≠ 1 ∧ (q < 34 ∨ 186 ≤ q) → (leG g A.2.2.1.1 (mIx A v)) q = g q := fun q hq => leG_o hp (by omega)
    have kr : rRow (leG g A.2.2.1.1 (mIx A v)) (aRm A (mIx A v)) := ⟨⟨(hf 0 (by omega)).trans q0, leG_1 _ _ _, (hf 2 (by omega)).trans q2, (hf 3 (by omega)).trans q3, (hf 4 (by omega)).trans q4, (hf 5 (by omega)).trans q5, (hf 6 (by omega)).trans q6, (hf 7 (by omega)).trans q7, (hf 9 (by omega)).trans q9⟩, fun j (hj : j < 8) => (hf _ (by omega)).trans (qw j hj), fun j (hj : j < A.2.1.1) => by rw [hf _ (by omega)]; exact qd j hj, fun i (hi : i < A.2.2.1.1 - 1) => le_msg hA hr hp hi, fun (hk : 0 < A.2.2.2.1.1) => ⟨(hf 8 (by omega)).trans (qf hk).1, fun j hj => ⟨(hf _ (by omega)).trans ((qf hk).2.1 j hj).1, (hf _ (by omega)).trans ((qf hk).2.1 j hj).2⟩, fun j (hj : j < A.2.2.2.1.2.2.1) => by rw [hf _ (by omega)]; exact (qf hk).2.2 j hj⟩, fun j (hj : j < A.2.2.2.2.1.1) => by rw [hf _ (by omega)]; exact qx j hj, fun b (hb : b < A.2.2.2.1.1) p hp => (hf _ (by omega)).trans (qb b hb p hp)⟩
    have ko : ∀ q, 430 ≤ q → (leG g A.2.2.1.1 (mIx A v)) q = g q := fun q hq => hf q (by omega)
    refine x_iconst hC d_MessageCoderModel_drops_29 (v := nI 0) (by decide) ?_
    refine hret _ _ _ _ _ _ _ d_MessageCoderModel_drops_30 (by decide) (by decide) rfl ?_
    have e9 : aDi A v = (nI (A.2.2.1.1 - 1), aRm A (mIx A v)) := if_pos c_5
    exact ⟨(leG g A.2.2.1.1 (mIx A v)), nI (A.2.2.1.1 - 1), by rw [e9, codN_n (by omega)], rfl, o0, ga, by rw [e9]; exact kr, ko, fun _ => by rw [e9], hag⟩
  · skip
    refine x_iconst hC d_MessageCoderModel_drops_8 (v := nI 3) (by decide) ?_
    refine hret _ _ _ _ _ _ _ d_MessageCoderModel_drops_9 (by decide) (by decide) rfl ?_
    have e9 : aDi A v = (-3, A) := if_neg c_5
    exact ⟨g, rs, by rw [e9]; rfl, rfl, o0, ga, by rw [e9]; exact hr, fun _ _ => rfl, fun h9 => absurd h9 (by rw [e9]; show ¬ codN (-3) = 0; decide), hag⟩

theorem d_MessageCoderModel_hurries_0 : decode prog_14_method_40_code 0 = .ok (.aload_n 0, 1) := by decide +kernel
theorem d_MessageCoderModel_hurries_1 : decode prog_14_method_40_code 1 = .ok (.iload_n 1, 1) := by decide +kernel
theorem d_MessageCoderModel_hurries_2 : decode prog_14_method_40_code 2 = .ok (.invokevirtual 142, 3) := by decide +kernel
theorem d_MessageCoderModel_hurries_5 : decode prog_14_method_40_code 5 = .ok (.ifCond .ne 5, 3) := by decide +kernel
theorem d_MessageCoderModel_hurries_8 : decode prog_14_method_40_code 8 = .ok (.iconst 3, 1) := by decide +kernel
theorem d_MessageCoderModel_hurries_9 : decode prog_14_method_40_code 9 = .ok (.ireturn, 1) := by decide +kernel
theorem d_MessageCoderModel_hurries_10 : decode prog_14_method_40_code 10 = .ok (.iload_n 2, 1) := by decide +kernel
theorem d_MessageCoderModel_hurries_11 : decode prog_14_method_40_code 11 = .ok (.iconst 1, 1) := by decide +kernel
theorem d_MessageCoderModel_hurries_12 : decode prog_14_method_40_code 12 = .ok (.iconst 5, 1) := by decide +kernel
theorem d_MessageCoderModel_hurries_13 : decode prog_14_method_40_code 13 = .ok (.invokestatic 64, 3) := by decide +kernel
theorem d_MessageCoderModel_hurries_16 : decode prog_14_method_40_code 16 = .ok (.ifCond .ne 5, 3) := by decide +kernel
theorem d_MessageCoderModel_hurries_19 : decode prog_14_method_40_code 19 = .ok (.iconst 1, 1) := by decide +kernel
theorem d_MessageCoderModel_hurries_20 : decode prog_14_method_40_code 20 = .ok (.ireturn, 1) := by decide +kernel
theorem d_MessageCoderModel_hurries_21 : decode prog_14_method_40_code 21 = .ok (.aload_n 0, 1) := by decide +kernel
theorem d_MessageCoderModel_hurries_22 : decode prog_14_method_40_code 22 = .ok (.getfield 9, 3) := by decide +kernel
theorem d_MessageCoderModel_hurries_25 : decode prog_14_method_40_code 25 = .ok (.bipush 34, 2) := by decide +kernel
theorem d_MessageCoderModel_hurries_27 : decode prog_14_method_40_code 27 = .ok (.bipush 19, 2) := by decide +kernel
theorem d_MessageCoderModel_hurries_29 : decode prog_14_method_40_code 29 = .ok (.aload_n 0, 1) := by decide +kernel
theorem d_MessageCoderModel_hurries_30 : decode prog_14_method_40_code 30 = .ok (.iload_n 1, 1) := by decide +kernel
theorem d_MessageCoderModel_hurries_31 : decode prog_14_method_40_code 31 = .ok (.invokevirtual 85, 3) := by decide +kernel
theorem d_MessageCoderModel_hurries_34 : decode prog_14_method_40_code 34 = .ok (.imul, 1) := by decide +kernel
theorem d_MessageCoderModel_hurries_35 : decode prog_14_method_40_code 35 = .ok (.iadd, 1) := by decide +kernel
theorem d_MessageCoderModel_hurries_36 : decode prog_14_method_40_code 36 = .ok (.iconst 1, 1) := by decide +kernel
theorem d_MessageCoderModel_hurries_37 : decode prog_14_method_40_code 37 = .ok (.iadd, 1) := by decide +kernel
theorem d_MessageCoderModel_hurries_38 : decode prog_14_method_40_code 38 = .ok (.iload_n 2, 1) := by decide +kernel
theorem d_MessageCoderModel_hurries_39 : decode prog_14_method_40_code 39 = .ok (.iastore, 1) := by decide +kernel
theorem d_MessageCoderModel_hurries_40 : decode prog_14_method_40_code 40 = .ok (.aload_n 0, 1) := by decide +kernel
theorem d_MessageCoderModel_hurries_41 : decode prog_14_method_40_code 41 = .ok (.aload_n 0, 1) := by decide +kernel
theorem d_MessageCoderModel_hurries_42 : decode prog_14_method_40_code 42 = .ok (.aload_n 0, 1) := by decide +kernel
theorem d_MessageCoderModel_hurries_43 : decode prog_14_method_40_code 43 = .ok (.iload_n 1, 1) := by decide +kernel
theorem d_MessageCoderModel_hurries_44 : decode prog_14_method_40_code 44 = .ok (.invokevirtual 85, 3) := by decide +kernel
theorem d_MessageCoderModel_hurries_47 : decode prog_14_method_40_code 47 = .ok (.invokevirtual 88, 3) := by decide +kernel
theorem d_MessageCoderModel_hurries_50 : decode prog_14_method_40_code 50 = .ok (.putfield 61, 3) := by decide +kernel
theorem d_MessageCoderModel_hurries_53 : decode prog_14_method_40_code 53 = .ok (.iconst 0, 1) := by decide +kernel
theorem d_MessageCoderModel_hurries_54 : decode prog_14_method_40_code 54 = .ok (.ireturn, 1) := by decide +kernel
set_option maxHeartbeats 4000000 in
set_option maxRecDepth 20000 in
theorem c_MessageCoderModel_hurries {P : xP} {F : xF} {z : Nat} {m : Nat} {th : Nat} {ch : Nat} {sv : Nat} {rs : Int32} {bm : Nat} {dm : Nat} {lz : Nat} {ty : Nat} {he : Nat} {er : Int32} {ea : Int32} {fa : Int32} {cn : Nat} {g : Nat → Nat} {A : aS} {v : Int32} {p : Int32} (o0 : F (m) = some (.inl (10, [.int (nI (th)), .ref (m + 1), .int (nI (ch)), .int (nI (sv)), .int rs, .ref (m + 2), .ref (m + 3), .ref (m + 4), .ref (m + 5), .ref (m + 6), .int (nI (bm)), .ref (m + 7), .int (nI (dm)), .ref (m + 8), .ref (m + 9), .int (nI (lz)), .ref (m + 10), .int (nI (ty)), .int (nI (he)), .int er, .int ea, .int fa, .ref (m + 11), .int (nI (cn))]))) (ga : F (m + 1) = some (.inr (0, 4730, fun b9 => .int (nI (g b9))))) (hr : rRow g A) (hA : aInv A) : xM P xy_MessageCoderModel_hurries [.ref m, .int v, .int p] F (z) 0 0 (fun r9 F9 z9 => ∃ g1 : Nat → Nat, ∃ rs1 : Int32, r9 = some (.int (nI (codN (aHu A v p).1))) ∧ z9 = z ∧ F9 (m) = some (.inl (10, [.int (nI (th)), .ref (m + 1), .int (nI (ch)), .int (nI (sv)), .int rs1, .ref (m + 2), .ref (m + 3), .ref (m + 4), .ref (m + 5), .ref (m + 6), .int (nI (bm)), .ref (m + 7), .int (nI (dm)), .ref (m + 8), .ref (m + 9), .int (nI (lz)), .ref (m + 10), .int (nI (ty)), .int (nI (he)), .int er, .int ea, .int fa, .ref (m + 11), .int (nI (cn))])) ∧ F9 (m + 1) = some (.inr (0, 4730, fun b9 => .int (nI (g1 b9)))) ∧ (rRow g1 (aHu A v p).2) ∧ (∀ q, 430 ≤ q → g1 q = g q) ∧ (codN (aHu A v p).1 = 0 → rs1 = (aHu A v p).1) ∧ (∀ a9 : Nat, (a9 < m ∨ m + 2 ≤ a9) → F9 a9 = F a9)) := by
  refine xM_i .int rfl (Nat.le_of_ble_eq_true rfl) (L0 := [some (.ref m), some (.int v), some (.int p)]) rfl rfl fun Θ hC hret => ?_
  have hag : ∀ a9 : Nat, (a9 < m ∨ m + 2 ≤ a9) → F a9 = F a9 := fun a9 _ => rfl
  obtain ⟨⟨q0, q1, q2, q3, q4, q5, q6, q7, q9⟩, qw, qd, qm, qf, qx, qb⟩ := id hr
  obtain ⟨⟨u1, u2, u3, u4, u5⟩, uw, ud, um, uo, ut, ux, ub, un9⟩ := id hA
  refine x_aload_n hC d_MessageCoderModel_hurries_0 rfl rfl ?_
  refine x_iload_n hC d_MessageCoderModel_hurries_1 rfl rfl ?_
  refine x_callV hC kv_MessageCoderModel_142 (c_MessageCoderModel_isThere (o0 := o0) (ga := ga) (hr := hr) (hA := hA)) o0 rfl rfl (by decide) rfl rfl rfl (Nat.le_of_ble_eq_true rfl) (by decide) d_MessageCoderModel_hurries_2 (fun r9 F9 z9 hp9 => ?_)
  obtain ⟨rfl, h9b, h9c⟩ := hp9
  rw [h9b, h9c]
  clear h9b h9c F9 z9
  refine x_ifB_ne hC d_MessageCoderModel_hurries_5 (tgt := 10) (by decide) (fun c_5 => ?_) (fun c_5 => ?_)
  · skip
    refine x_iload_n hC d_MessageCoderModel_hurries_10 rfl rfl ?_
    refine x_iconst hC d_MessageCoderModel_hurries_11 (v := nI 1) (by decide) ?_
    refine x_iconst hC d_MessageCoderModel_hurries_12 (v := nI 5) (by decide) ?_
    refine x_callS hC ks_MessageCoderModel_64 (c_MessageCoderModel_in ) (by decide) rfl rfl rfl (Nat.le_of_ble_eq_true rfl) (by decide) d_MessageCoderModel_hurries_13 (fun r9 F9 z9 hp9 => ?_)
    obtain ⟨rfl, h9b, h9c⟩ := hp9
    rw [h9b, h9c]
    clear h9b h9c F9 z9
    refine x_ifB_ne hC d_MessageCoderModel_hurries_16 (tgt := 21) (by decide) (fun c_16 => ?_) (fun c_16 => ?_)
    · skip
      have hp : mIx A v < A.2.2.1.1 := c_5
      have hp1 : nI 1 ≤ p := c_16.1
      have hp5 : p ≤ nI 5 := c_16.2
      obtain ⟨hx0, hx1⟩ := i2n_ge hp1 (by decide)
      have hx5 : p.toNatClampNeg ≤ 5 := i2n_le hx0 hp5 (by decide)
      have hxe := i2n_of hx0
      refine x_aload_n hC d_MessageCoderModel_hurries_21 rfl rfl ?_
      refine x_getf hC kf_MessageCoderModel_9 o0 rfl d_MessageCoderModel_hurries_22 ?_
      refine x_bipush hC d_MessageCoderModel_hurries_25 (v := nI 34) (by decide) ?_
      refine x_bipush hC d_MessageCoderModel_hurries_27 (v := nI 19) (by decide) ?_
      refine x_aload_n hC d_MessageCoderModel_hurries_29 rfl rfl ?_
      refine x_iload_n hC d_MessageCoderModel_hurries_30 rfl rfl ?_
      refine x_callV hC kv_MessageCoderModel_85 (c_MessageCoderModel_place (o0 := o0) (ga := ga) (hr := hr) (hA := hA)) o0 rfl rfl (by decide) rfl rfl rfl (Nat.le_of_ble_eq_true rfl) (by decide) d_MessageCoderModel_hurries_31 (fun r9 F9 z9 hp9 => ?_)
      obtain ⟨rfl, h9b, h9c⟩ := hp9
      rw [h9b, h9c]
      clear h9b h9c F9 z9
      refine x_top (v := (nI (mIx A v))) (plc_of hp) ?_
      refine x_imul hC d_MessageCoderModel_hurries_34 (v := (nI ((19) * (mIx A v)))) (pk_mul _ _) ?_
      refine x_iadd hC d_MessageCoderModel_hurries_35 (v := (nI ((34) + ((19) * (mIx A v))))) (x_addN (by omega)) ?_
      refine x_iconst hC d_MessageCoderModel_hurries_36 (v := nI 1) (by decide) ?_
      refine x_iadd hC d_MessageCoderModel_hurries_37 (v := (nI ((34) + ((19) * (mIx A v)) + 1))) (x_addN (by omega)) ?_
      refine x_iload_n hC d_MessageCoderModel_hurries_38 rfl rfl ?_
      refine x_top (v := (nI (p.toNatClampNeg))) hxe ?_
      refine x_iast hC ga (j := (34) + ((19) * (mIx A v)) + 1) ⟨rfl, by omega, by omega⟩ d_MessageCoderModel_hurries_39 (g1 := fun b9 => nI (updN g ((34) + ((19) * (mIx A v)) + 1) (p.toNatClampNeg) b9)) (x_updN _ _ _) ?_
      generalize eg1 : updN g ((34) + ((19) * (mIx A v)) + 1) (p.toNatClampNeg) = g1
      generalize e2 : xup F (m + 1) (.inr (0, 4730, fun b9 => .int (nI (g1 b9)))) = F2
      have o0 : F2 (m) = some (.inl (10, [.int (nI (th)), .ref (m + 1), .int (nI (ch)), .int (nI (sv)), .int rs, .ref (m + 2), .ref (m + 3), .ref (m + 4), .ref (m + 5), .ref (m + 6), .int (nI (bm)), .ref (m + 7), .int (nI (dm)), .ref (m + 8), .ref (m + 9), .int (nI (lz)), .ref (m + 10), .int (nI (ty)), .int (nI (he)), .int er, .int ea, .int fa, .ref (m + 11), .int (nI (cn))])) := by rw [← e2]; exact (xup_ne (by omega)).trans o0
      have ga : F2 (m + 1) = some (.inr (0, 4730, fun b9 => .int (nI (g1 b9)))) := by rw [← e2]; exact xup_eq
      have hag : ∀ a9 : Nat, (a9 < m ∨ m + 2 ≤ a9) → F2 a9 = F a9 := fun a9 q0 => by rw [← e2]; exact (xup_ne (by omega)).trans (hag a9 q0)
      have hf : ∀ q, q ≠ 34 + 19 * (mIx A v) + 1 → g1 q = g q := fun q hq => by rw [← eg1, updN_ne hq]
      have hn2 : g1 (34 + 19 * (mIx A v) + 1) = p.toNatClampNeg := by rw [← eg1]; exact updN_at (by omega)
      have kr : rRow g1 (A.1, A.2.1, (A.2.2.1.1, A.2.2.1.2.1, updA A.2.2.1.2.2 (mIx A v) (prS (A.2.2.1.2.2 (mIx A v)) p.toNatClampNeg)), A.2.2.2) := ⟨⟨(hf 0 (by omega)).trans q0, (hf 1 (by omega)).trans q1, (hf 2 (by omega)).trans q2, (hf 3 (by omega)).trans q3, (hf 4 (by omega)).trans q4, (hf 5 (by omega)).trans q5, (hf 6 (by omega)).trans q6, (hf 7 (by omega)).trans q7, (hf 9 (by omega)).trans q9⟩, fun j (hj : j < 8) => (hf _ (by omega)).trans (qw j hj), fun j (hj : j < A.2.1.1) => by rw [hf _ (by omega)]; exact qd j hj, fun i (hi : i < A.2.2.1.1) => by show rMsg _ (updA _ _ _ i); by_cases e : i = (mIx A v); (rw [e, updA_eq]; exact ⟨(hf _ (by omega)).trans (qm _ hp).1, hn2, (hf _ (by omega)).trans (qm _ hp).2.2.1, fun j (hj : j < (A.2.2.1.2.2 (mIx A v)).2.2.1) => by show g1 (34 + 19 * (mIx A v) + (3 + j)) + 97 = _; rw [hf _ (by omega)]; exact (qm _ hp).2.2.2 j hj⟩); (rw [updA_ne e]; exact rMsg_ext (um i hi).2.2.1 (fun q hq => hf _ (by omega)) (qm i hi)), fun (hk : 0 < A.2.2.2.1.1) => ⟨(hf 8 (by omega)).trans (qf hk).1, fun j hj => ⟨(hf _ (by omega)).trans ((qf hk).2.1 j hj).1, (hf _ (by omega)).trans ((qf hk).2.1 j hj).2⟩, fun j (hj : j < A.2.2.2.1.2.2.1) => by rw [hf _ (by omega)]; exact (qf hk).2.2 j hj⟩, fun j (hj : j < A.2.2.2.2.1.1) => by rw [hf _ (by omega)]; exact qx j hj, fun b (hb : b < A.2.2.2.1.1) p hp => (hf _ (by omega)).trans (qb b hb p hp)⟩
      have ko : ∀ q, 430 ≤ q → g1 q = g q := fun q hq => hf q (by omega)
      have kA : aInv (A.1, A.2.1, (A.2.2.1.1, A.2.2.1.2.1, updA A.2.2.1.2.2 (mIx A v) (prS (A.2.2.1.2.2 (mIx A v)) p.toNatClampNeg)), A.2.2.2) := inv_P hA _ _ ⟨hx1, hx5⟩
      have hm9 : mIx (A.1, A.2.1, (A.2.2.1.1, A.2.2.1.2.1, updA A.2.2.1.2.2 (mIx A v) (prS (A.2.2.1.2.2 (mIx A v)) p.toNatClampNeg)), A.2.2.2) v = mIx A v := fsN_ext _ (fun i _ => congrArg (fun q => decide (nI q = v)) (pr_id _ _ _))
      have hrk : rkM (updA A.2.2.1.2.2 (mIx A v) (prS (A.2.2.1.2.2 (mIx A v)) p.toNatClampNeg)) (mIx A v) A.2.2.1.1 ≤ A.2.2.1.1 := rkM_le _ _ _
      refine x_aload_n hC d_MessageCoderModel_hurries_40 rfl rfl ?_
      refine x_aload_n hC d_MessageCoderModel_hurries_41 rfl rfl ?_
      refine x_aload_n hC d_MessageCoderModel_hurries_42 rfl rfl ?_
      refine x_iload_n hC d_MessageCoderModel_hurries_43 rfl rfl ?_
      refine x_callV hC kv_MessageCoderModel_85 (c_MessageCoderModel_place (o0 := o0) (ga := ga) (hr := kr) (hA := kA) (A := (A.1, A.2.1, (A.2.2.1.1, A.2.2.1.2.1, updA A.2.2.1.2.2 (mIx A v) (prS (A.2.2.1.2.2 (mIx A v)) p.toNatClampNeg)), A.2.2.2))) o0 rfl rfl (by decide) rfl rfl rfl (Nat.le_of_ble_eq_true rfl) (by decide) d_MessageCoderModel_hurries_44 (fun r9 F9 z9 hp9 => ?_)
      obtain ⟨rfl, h9b, h9c⟩ := hp9
      rw [h9b, h9c]
      clear h9b h9c F9 z9
      refine x_top (v := (nI (mIx A v))) (by rw [hm9]; exact plc_of hp) ?_
      refine x_callV hC kv_MessageCoderModel_88 (c_MessageCoderModel_rankOfMessage (o0 := o0) (ga := ga) (hr := kr) (hA := kA) (hp := hp) (A := (A.1, A.2.1, (A.2.2.1.1, A.2.2.1.2.1, updA A.2.2.1.2.2 (mIx A v) (prS (A.2.2.1.2.2 (mIx A v)) p.toNatClampNeg)), A.2.2.2))) o0 rfl rfl (by decide) rfl rfl rfl (Nat.le_of_ble_eq_true rfl) (by decide) d_MessageCoderModel_hurries_47 (fun r9 F9 z9 hp9 => ?_)
      obtain ⟨rfl, h9b, h9c⟩ := hp9
      rw [h9b, h9c]
      clear h9b h9c F9 z9
      refine x_top (v := (nI (rkM (updA A.2.2.1.2.2 (mIx A v) (prS (A.2.2.1.2.2 (mIx A v)) p.toNatClampNeg)) (mIx A v) A.2.2.1.1))) rfl ?_
      refine x_putf hC kf_MessageCoderModel_61 o0 (Nat.le_of_ble_eq_true rfl) rfl rfl d_MessageCoderModel_hurries_50 (fs1 := [.int (nI (th)), .ref (m + 1), .int (nI (ch)), .int (nI (sv)), .int (nI (rkM (updA A.2.2.1.2.2 (mIx A v) (prS (A.2.2.1.2.2 (mIx A v)) p.toNatClampNeg)) (mIx A v) A.2.2.1.1)), .ref (m + 2), .ref (m + 3), .ref (m + 4), .ref (m + 5), .ref (m + 6), .int (nI (bm)), .ref (m + 7), .int (nI (dm)), .ref (m + 8), .ref (m + 9), .int (nI (lz)), .ref (m + 10), .int (nI (ty)), .int (nI (he)), .int er, .int ea, .int fa, .ref (m + 11), .int (nI (cn))]) rfl ?_
      generalize e3 : xup F2 (m) (.inl (10, [.int (nI (th)), .ref (m + 1), .int (nI (ch)), .int (nI (sv)), .int (nI (rkM (updA A.2.2.1.2.2 (mIx A v) (prS (A.2.2.1.2.2 (mIx A v)) p.toNatClampNeg)) (mIx A v) A.2.2.1.1)), .ref (m + 2), .ref (m + 3), .ref (m + 4), .ref (m + 5), .ref (m + 6), .int (nI (bm)), .ref (m + 7), .int (nI (dm)), .ref (m + 8), .ref (m + 9), .int (nI (lz)), .ref (m + 10), .int (nI (ty)), .int (nI (he)), .int er, .int ea, .int fa, .ref (m + 11), .int (nI (cn))])) = F3
      have o0 : F3 (m) = some (.inl (10, [.int (nI (th)), .ref (m + 1), .int (nI (ch)), .int (nI (sv)), .int (nI (rkM (updA A.2.2.1.2.2 (mIx A v) (prS (A.2.2.1.2.2 (mIx A v)) p.toNatClampNeg)) (mIx A v) A.2.2.1.1)), .ref (m + 2), .ref (m + 3), .ref (m + 4), .ref (m + 5), .ref (m + 6), .int (nI (bm)), .ref (m + 7), .int (nI (dm)), .ref (m + 8), .ref (m + 9), .int (nI (lz)), .ref (m + 10), .int (nI (ty)), .int (nI (he)), .int er, .int ea, .int fa, .ref (m + 11), .int (nI (cn))])) := by rw [← e3]; exact xup_eq
      have ga : F3 (m + 1) = some (.inr (0, 4730, fun b9 => .int (nI (g1 b9)))) := by rw [← e3]; exact (xup_ne (by omega)).trans ga
      have hag : ∀ a9 : Nat, (a9 < m ∨ m + 2 ≤ a9) → F3 a9 = F a9 := fun a9 q0 => by rw [← e3]; exact (xup_ne (by omega)).trans (hag a9 q0)
      refine x_iconst hC d_MessageCoderModel_hurries_53 (v := nI 0) (by decide) ?_
      refine hret _ _ _ _ _ _ _ d_MessageCoderModel_hurries_54 (by decide) (by decide) rfl ?_
      have e9 : aHu A v p = (nI (rkM (updA A.2.2.1.2.2 (mIx A v) (prS (A.2.2.1.2.2 (mIx A v)) p.toNatClampNeg)) (mIx A v) A.2.2.1.1), (A.1, A.2.1, (A.2.2.1.1, A.2.2.1.2.1, updA A.2.2.1.2.2 (mIx A v) (prS (A.2.2.1.2.2 (mIx A v)) p.toNatClampNeg)), A.2.2.2)) := (if_pos c_5).trans (if_pos c_16)
      exact ⟨g1, nI (rkM (updA A.2.2.1.2.2 (mIx A v) (prS (A.2.2.1.2.2 (mIx A v)) p.toNatClampNeg)) (mIx A v) A.2.2.1.1), by rw [e9, codN_n (by omega)], rfl, o0, ga, by rw [e9]; exact kr, ko, fun _ => by rw [e9], hag⟩
    · skip
      refine x_iconst hC d_MessageCoderModel_hurries_19 (v := nI 1) (by decide) ?_
      refine hret _ _ _ _ _ _ _ d_MessageCoderModel_hurries_20 (by decide) (by decide) rfl ?_
      have e9 : aHu A v p = (-1, A) := (if_pos c_5).trans (if_neg c_16)
      exact ⟨g, rs, by rw [e9]; rfl, rfl, o0, ga, by rw [e9]; exact hr, fun _ _ => rfl, fun h9 => absurd h9 (by rw [e9]; show ¬ codN (-1) = 0; decide), hag⟩
  · skip
    refine x_iconst hC d_MessageCoderModel_hurries_8 (v := nI 3) (by decide) ?_
    refine hret _ _ _ _ _ _ _ d_MessageCoderModel_hurries_9 (by decide) (by decide) rfl ?_
    have e9 : aHu A v p = (-3, A) := if_neg c_5
    exact ⟨g, rs, by rw [e9]; rfl, rfl, o0, ga, by rw [e9]; exact hr, fun _ _ => rfl, fun h9 => absurd h9 (by rw [e9]; show ¬ codN (-3) = 0; decide), hag⟩

theorem d_MessageCoderModel_learns_0 : decode prog_14_method_43_code 0 = .ok (.aload_n 0, 1) := by decide +kernel
theorem d_MessageCoderModel_learns_1 : decode prog_14_method_43_code 1 = .ok (.iload_n 1, 1) := by decide +kernel
theorem d_MessageCoderModel_learns_2 : decode prog_14_method_43_code 2 = .ok (.invokevirtual 142, 3) := by decide +kernel
theorem d_MessageCoderModel_learns_5 : decode prog_14_method_43_code 5 = .ok (.ifCond .ne 5, 3) := by decide +kernel
theorem d_MessageCoderModel_learns_8 : decode prog_14_method_43_code 8 = .ok (.iconst 3, 1) := by decide +kernel
theorem d_MessageCoderModel_learns_9 : decode prog_14_method_43_code 9 = .ok (.ireturn, 1) := by decide +kernel
theorem d_MessageCoderModel_learns_10 : decode prog_14_method_43_code 10 = .ok (.iconst 0, 1) := by decide +kernel
theorem d_MessageCoderModel_learns_11 : decode prog_14_method_43_code 11 = .ok (.istore_n 2, 1) := by decide +kernel
theorem d_MessageCoderModel_learns_12 : decode prog_14_method_43_code 12 = .ok (.iload_n 2, 1) := by decide +kernel
theorem d_MessageCoderModel_learns_13 : decode prog_14_method_43_code 13 = .ok (.bipush 8, 2) := by decide +kernel
theorem d_MessageCoderModel_learns_15 : decode prog_14_method_43_code 15 = .ok (.if_icmp .ge 51, 3) := by decide +kernel
theorem d_MessageCoderModel_learns_18 : decode prog_14_method_43_code 18 = .ok (.aload_n 0, 1) := by decide +kernel
theorem d_MessageCoderModel_learns_19 : decode prog_14_method_43_code 19 = .ok (.getfield 9, 3) := by decide +kernel
theorem d_MessageCoderModel_learns_22 : decode prog_14_method_43_code 22 = .ok (.bipush 10, 2) := by decide +kernel
theorem d_MessageCoderModel_learns_24 : decode prog_14_method_43_code 24 = .ok (.iload_n 2, 1) := by decide +kernel
theorem d_MessageCoderModel_learns_25 : decode prog_14_method_43_code 25 = .ok (.iadd, 1) := by decide +kernel
theorem d_MessageCoderModel_learns_26 : decode prog_14_method_43_code 26 = .ok (.iaload, 1) := by decide +kernel
theorem d_MessageCoderModel_learns_27 : decode prog_14_method_43_code 27 = .ok (.aload_n 0, 1) := by decide +kernel
theorem d_MessageCoderModel_learns_28 : decode prog_14_method_43_code 28 = .ok (.aload_n 0, 1) := by decide +kernel
theorem d_MessageCoderModel_learns_29 : decode prog_14_method_43_code 29 = .ok (.iload_n 1, 1) := by decide +kernel
theorem d_MessageCoderModel_learns_30 : decode prog_14_method_43_code 30 = .ok (.invokevirtual 85, 3) := by decide +kernel
theorem d_MessageCoderModel_learns_33 : decode prog_14_method_43_code 33 = .ok (.iload_n 2, 1) := by decide +kernel
theorem d_MessageCoderModel_learns_34 : decode prog_14_method_43_code 34 = .ok (.invokevirtual 155, 3) := by decide +kernel
theorem d_MessageCoderModel_learns_37 : decode prog_14_method_43_code 37 = .ok (.iadd, 1) := by decide +kernel
theorem d_MessageCoderModel_learns_38 : decode prog_14_method_43_code 38 = .ok (.istore_n 3, 1) := by decide +kernel
theorem d_MessageCoderModel_learns_39 : decode prog_14_method_43_code 39 = .ok (.aload_n 0, 1) := by decide +kernel
theorem d_MessageCoderModel_learns_40 : decode prog_14_method_43_code 40 = .ok (.getfield 9, 3) := by decide +kernel
theorem d_MessageCoderModel_learns_43 : decode prog_14_method_43_code 43 = .ok (.bipush 10, 2) := by decide +kernel
theorem d_MessageCoderModel_learns_45 : decode prog_14_method_43_code 45 = .ok (.iload_n 2, 1) := by decide +kernel
theorem d_MessageCoderModel_learns_46 : decode prog_14_method_43_code 46 = .ok (.iadd, 1) := by decide +kernel
theorem d_MessageCoderModel_learns_47 : decode prog_14_method_43_code 47 = .ok (.iload_n 3, 1) := by decide +kernel
theorem d_MessageCoderModel_learns_48 : decode prog_14_method_43_code 48 = .ok (.bipush 99, 2) := by decide +kernel
theorem d_MessageCoderModel_learns_50 : decode prog_14_method_43_code 50 = .ok (.if_icmp .le 8, 3) := by decide +kernel
theorem d_MessageCoderModel_learns_53 : decode prog_14_method_43_code 53 = .ok (.bipush 99, 2) := by decide +kernel
theorem d_MessageCoderModel_learns_55 : decode prog_14_method_43_code 55 = .ok (.goto 4, 3) := by decide +kernel
theorem d_MessageCoderModel_learns_58 : decode prog_14_method_43_code 58 = .ok (.iload_n 3, 1) := by decide +kernel
theorem d_MessageCoderModel_learns_59 : decode prog_14_method_43_code 59 = .ok (.iastore, 1) := by decide +kernel
theorem d_MessageCoderModel_learns_60 : decode prog_14_method_43_code 60 = .ok (.iinc 2 1, 3) := by decide +kernel
theorem d_MessageCoderModel_learns_63 : decode prog_14_method_43_code 63 = .ok (.goto (-51), 3) := by decide +kernel
theorem d_MessageCoderModel_learns_66 : decode prog_14_method_43_code 66 = .ok (.aload_n 0, 1) := by decide +kernel
theorem d_MessageCoderModel_learns_67 : decode prog_14_method_43_code 67 = .ok (.aload_n 0, 1) := by decide +kernel
theorem d_MessageCoderModel_learns_68 : decode prog_14_method_43_code 68 = .ok (.invokevirtual 158, 3) := by decide +kernel
theorem d_MessageCoderModel_learns_71 : decode prog_14_method_43_code 71 = .ok (.putfield 61, 3) := by decide +kernel
theorem d_MessageCoderModel_learns_74 : decode prog_14_method_43_code 74 = .ok (.iconst 0, 1) := by decide +kernel
theorem d_MessageCoderModel_learns_75 : decode prog_14_method_43_code 75 = .ok (.ireturn, 1) := by decide +kernel
set_option maxHeartbeats 4000000 in
set_option maxRecDepth 20000 in
theorem c_MessageCoderModel_learns {P : xP} {F : xF} {z : Nat} {m : Nat} {th : Nat} {ch : Nat} {sv : Nat} {rs : Int32} {bm : Nat} {dm : Nat} {lz : Nat} {ty : Nat} {he : Nat} {er : Int32} {ea : Int32} {fa : Int32} {cn : Nat} {g : Nat → Nat} {A : aS} {v : Int32} (o0 : F (m) = some (.inl (10, [.int (nI (th)), .ref (m + 1), .int (nI (ch)), .int (nI (sv)), .int rs, .ref (m + 2), .ref (m + 3), .ref (m + 4), .ref (m + 5), .ref (m + 6), .int (nI (bm)), .ref (m + 7), .int (nI (dm)), .ref (m + 8), .ref (m + 9), .int (nI (lz)), .ref (m + 10), .int (nI (ty)), .int (nI (he)), .int er, .int ea, .int fa, .ref (m + 11), .int (nI (cn))]))) (ga : F (m + 1) = some (.inr (0, 4730, fun b9 => .int (nI (g b9))))) (hr : rRow g A) (hA : aInv A) : xM P xy_MessageCoderModel_learns [.ref m, .int v] F (z) 0 0 (fun r9 F9 z9 => ∃ g1 : Nat → Nat, ∃ rs1 : Int32, r9 = some (.int (nI (codN (aLe A v).1))) ∧ z9 = z ∧ F9 (m) = some (.inl (10, [.int (nI (th)), .ref (m + 1), .int (nI (ch)), .int (nI (sv)), .int rs1, .ref (m + 2), .ref (m + 3), .ref (m + 4), .ref (m + 5), .ref (m + 6), .int (nI (bm)), .ref (m + 7), .int (nI (dm)), .ref (m + 8), .ref (m + 9), .int (nI (lz)), .ref (m + 10), .int (nI (ty)), .int (nI (he)), .int er, .int ea, .int fa, .ref (m + 11), .int (nI (cn))])) ∧ F9 (m + 1) = some (.inr (0, 4730, fun b9 => .int (nI (g1 b9)))) ∧ (rRow g1 (aLe A v).2) ∧ (∀ q, 430 ≤ q → g1 q = g q) ∧ (codN (aLe A v).1 = 0 → rs1 = (aLe A v).1) ∧ (∀ a9 : Nat, (a9 < m ∨ m + 2 ≤ a9) → F9 a9 = F a9)) := by
  refine xM_i .int rfl (Nat.le_of_ble_eq_true rfl) (L0 := [some (.ref m), some (.int v), none, none]) rfl rfl fun Θ hC hret => ?_
  have hag : ∀ a9 : Nat, (a9 < m ∨ m + 2 ≤ a9) → F a9 = F a9 := fun a9 _ => rfl
  obtain ⟨⟨q0, q1, q2, q3, q4, q5, q6, q7, q9⟩, qw, qd, qm, qf, qx, qb⟩ := id hr
  obtain ⟨⟨u1, u2, u3, u4, u5⟩, uw, ud, um, uo, ut, ux, ub, un9⟩ := id hA
  refine x_aload_n hC d_MessageCoderModel_learns_0 rfl rfl ?_
  refine x_iload_n hC d_MessageCoderModel_learns_1 rfl rfl ?_
  refine x_callV hC kv_MessageCoderModel_142 (c_MessageCoderModel_isThere (o0 := o0) (ga := ga) (hr := hr) (hA := hA)) o0 rfl rfl (by decide) rfl rfl rfl (Nat.le_of_ble_eq_true rfl) (by decide) d_MessageCoderModel_learns_2 (fun r9 F9 z9 hp9 => ?_)
  obtain ⟨rfl, h9b, h9c⟩ := hp9
  rw [h9b, h9c]
  clear h9b h9c F9 z9
  refine x_ifB_ne hC d_MessageCoderModel_learns_5 (tgt := 10) (by decide) (fun c_5 => ?_) (fun c_5 => ?_)
  · skip
    have hp : mIx A v < A.2.2.1.1 := c_5
    have hme := um _ hp
    have kr0 : rRow g (lrnP A.1 (A.2.2.1.2.2 (mIx A v)) 0, A.2) := ⟨hr.1, fun j hj => (qw j hj).trans (show A.1 j = lrnP A.1 (A.2.2.1.2.2 (mIx A v)) 0 j from (if_neg (Nat.not_lt_zero j)).symm), hr.2.2⟩
    refine x_iconst hC d_MessageCoderModel_learns_10 (v := nI 0) (by decide) ?_
    refine x_istore_n hC d_MessageCoderModel_learns_11 rfl (Nat.le_of_ble_eq_true rfl) (L1 := [some (.ref m), some (.int v), some (.int (nI 0)), none]) rfl ?_
    have loop_12 : ∀ (m9 : Nat) (Fh12 : xF) (i : Nat) (p1 : Nat → Nat), (Fh12 (m) = some (.inl (10, [.int (nI (th)), .ref (m + 1), .int (nI (ch)), .int (nI (sv)), .int rs, .ref (m + 2), .ref (m + 3), .ref (m + 4), .ref (m + 5), .ref (m + 6), .int (nI (bm)), .ref (m + 7), .int (nI (dm)), .ref (m + 8), .ref (m + 9), .int (nI (lz)), .ref (m + 10), .int (nI (ty)), .int (nI (he)), .int er, .int ea, .int fa, .ref (m + 11), .int (nI (cn))]))) → (Fh12 (m + 1) = some (.inr (0, 4730, fun b9 => .int (nI (p1 b9))))) → (∀ a9 : Nat, (a9 < m ∨ m + 2 ≤ a9) → Fh12 a9 = F a9) → (i ≤ 8) → (rRow p1 (lrnP A.1 (A.2.2.1.2.2 (mIx A v)) i, A.2)) → (∀ q, 430 ≤ q → p1 q = g q) → (8 - i < m9) → xX P Θ 12 [some (.ref m), some (.int v), some (.int (nI (i))), none] [] Fh12 (z) 0 0 := by
      intro m9
      induction m9 with
      | zero => intros; omega
      | succ m9 ih_12 =>
        intro Fh12 i p1 o0 ga hag hi kr1 ko hm_12
        refine x_iload_n hC d_MessageCoderModel_learns_12 rfl rfl ?_
        refine x_bipush hC d_MessageCoderModel_learns_13 (v := nI 8) (by decide) ?_
        refine x_icmpN_ge hC d_MessageCoderModel_learns_15 (tgt := 66) (by decide) (by omega) (by omega) (fun c_15 => ?_) (fun c_15 => ?_)
        · skip
          have e8 : i = 8 := by omega
          rw [e8] at kr1
          refine x_aload_n hC d_MessageCoderModel_learns_66 rfl rfl ?_
          refine x_aload_n hC d_MessageCoderModel_learns_67 rfl rfl ?_
          refine x_callV hC kv_MessageCoderModel_158 (c_MessageCoderModel_total (o0 := o0) (ga := ga) (hw := kr1.2.1) (hw9 := fun j hj => (lrnP_b (uw j hj)).2) (w := lrnP A.1 (A.2.2.1.2.2 (mIx A v)) 8)) o0 rfl rfl (by decide) rfl rfl rfl (Nat.le_of_ble_eq_true rfl) (by decide) d_MessageCoderModel_learns_68 (fun r9 F9 z9 hp9 => ?_)
          obtain ⟨rfl, h9b, h9c⟩ := hp9
          rw [h9b, h9c]
          clear h9b h9c F9 z9
          refine x_top (v := (nI (sumN (lrnW A.1 (A.2.2.1.2.2 (mIx A v))) 8))) (congrArg nI (sumN_ext 8 (fun j hj => if_pos hj))) ?_
          refine x_putf hC kf_MessageCoderModel_61 o0 (Nat.le_of_ble_eq_true rfl) rfl rfl d_MessageCoderModel_learns_71 (fs1 := [.int (nI (th)), .ref (m + 1), .int (nI (ch)), .int (nI (sv)), .int (nI (sumN (lrnW A.1 (A.2.2.1.2.2 (mIx A v))) 8)), .ref (m + 2), .ref (m + 3), .ref (m + 4), .ref (m + 5), .ref (m + 6), .int (nI (bm)), .ref (m + 7), .int (nI (dm)), .ref (m + 8), .ref (m + 9), .int (nI (lz)), .ref (m + 10), .int (nI (ty)), .int (nI (he)), .int er, .int ea, .int fa, .ref (m + 11), .int (nI (cn))]) rfl ?_
          generalize e1 : xup Fh12 (m) (.inl (10, [.int (nI (th)), .ref (m + 1), .int (nI (ch)), .int (nI (sv)), .int (nI (sumN (lrnW A.1 (A.2.2.1.2.2 (mIx A v))) 8)), .ref (m + 2), .ref (m + 3), .ref (m + 4), .ref (m + 5), .ref (m + 6), .int (nI (bm)), .ref (m + 7), .int (nI (dm)), .ref (m + 8), .ref (m + 9), .int (nI (lz)), .ref (m + 10), .int (nI (ty)), .int (nI (he)), .int er, .int ea, .int fa, .ref (m + 11), .int (nI (cn))])) = F1
          have o0 : F1 (m) = some (.inl (10, [.int (nI (th)), .ref (m + 1), .int (nI (ch)), .int (nI (sv)), .int (nI (sumN (lrnW A.1 (A.2.2.1.2.2 (mIx A v))) 8)), .ref (m + 2), .ref (m + 3), .ref (m + 4), .ref (m + 5), .ref (m + 6), .int (nI (bm)), .ref (m + 7), .int (nI (dm)), .ref (m + 8), .ref (m + 9), .int (nI (lz)), .ref (m + 10), .int (nI (ty)), .int (nI (he)), .int er, .int ea, .int fa, .ref (m + 11), .int (nI (cn))])) := by rw [← e1]; exact xup_eq
          have ga : F1 (m + 1) = some (.inr (0, 4730, fun b9 => .int (nI (p1 b9)))) := by rw [← e1]; exact (xup_ne (by omega)).trans ga
          have hag : ∀ a9 : Nat, (a9 < m ∨ m + 2 ≤ a9) → F1 a9 = F a9 := fun a9 q0 => by rw [← e1]; exact (xup_ne (by omega)).trans (hag a9 q0)
          have kr : rRow p1 (lrnW A.1 (A.2.2.1.2.2 (mIx A v)), A.2) := ⟨kr1.1, fun j hj => (kr1.2.1 j hj).trans (if_pos hj), kr1.2.2⟩
          have hs9 := sumN_bd (f := lrnW A.1 (A.2.2.1.2.2 (mIx A v))) 99 8 (fun j hj => (lrnW_b (uw j hj)).2)
          refine x_iconst hC d_MessageCoderModel_learns_74 (v := nI 0) (by decide) ?_
          refine hret _ _ _ _ _ _ _ d_MessageCoderModel_learns_75 (by decide) (by decide) rfl ?_
          have e9 : aLe A v = (nI (sumN (lrnW A.1 (A.2.2.1.2.2 (mIx A v))) 8), (lrnW A.1 (A.2.2.1.2.2 (mIx A v)), A.2)) := if_pos c_5
          exact ⟨p1, nI (sumN (lrnW A.1 (A.2.2.1.2.2 (mIx A v))) 8), by rw [e9, codN_n (by omega)], rfl, o0, ga, by rw [e9]; exact kr, ko, fun _ => by rw [e9], hag⟩
        · skip
          have hA1 : aInv (lrnP A.1 (A.2.2.1.2.2 (mIx A v)) i, A.2) := inv_W hA (fun j hj => lrnP_b (uw j hj))
          have hu1 := uw i (by omega)
          have htm : tmOf (A.2.2.1.2.2 (mIx A v)).2.2.2 (97 + i) (A.2.2.1.2.2 (mIx A v)).2.2.1 ≤ (A.2.2.1.2.2 (mIx A v)).2.2.1 := tmOf_le _ _ _
          refine x_aload_n hC d_MessageCoderModel_learns_18 rfl rfl ?_
          refine x_getf hC kf_MessageCoderModel_9 o0 rfl d_MessageCoderModel_learns_19 ?_
          refine x_bipush hC d_MessageCoderModel_learns_22 (v := nI 10) (by decide) ?_
          refine x_iload_n hC d_MessageCoderModel_learns_24 rfl rfl ?_
          refine x_iadd hC d_MessageCoderModel_learns_25 (v := (nI (10 + i))) (x_addN (by omega)) ?_
          refine x_iald hC ga (j := 10 + i) ⟨rfl, by omega, by omega⟩ (x := nI (A.1 i)) (congrArg nI ((kr1.2.1 i (by omega)).trans (if_neg (Nat.lt_irrefl i)))) d_MessageCoderModel_learns_26 ?_
          refine x_aload_n hC d_MessageCoderModel_learns_27 rfl rfl ?_
          refine x_aload_n hC d_MessageCoderModel_learns_28 rfl rfl ?_
          refine x_iload_n hC d_MessageCoderModel_learns_29 rfl rfl ?_
          refine x_callV hC kv_MessageCoderModel_85 (c_MessageCoderModel_place (o0 := o0) (ga := ga) (hr := kr1) (hA := hA1) (A := (lrnP A.1 (A.2.2.1.2.2 (mIx A v)) i, A.2))) o0 rfl rfl (by decide) rfl rfl rfl (Nat.le_of_ble_eq_true rfl) (by decide) d_MessageCoderModel_learns_30 (fun r9 F9 z9 hp9 => ?_)
          obtain ⟨rfl, h9b, h9c⟩ := hp9
          rw [h9b, h9c]
          clear h9b h9c F9 z9
          refine x_top (v := (nI (mIx A v))) (plc_of hp) ?_
          refine x_iload_n hC d_MessageCoderModel_learns_33 rfl rfl ?_
          refine x_callV hC kv_MessageCoderModel_155 (c_MessageCoderModel_counts (o0 := o0) (ga := ga) (hr := kr1) (hA := hA1) (hp := hp) (hs := by omega) (A := (lrnP A.1 (A.2.2.1.2.2 (mIx A v)) i, A.2))) o0 rfl rfl (by decide) rfl rfl rfl (Nat.le_of_ble_eq_true rfl) (by decide) d_MessageCoderModel_learns_34 (fun r9 F9 z9 hp9 => ?_)
          obtain ⟨rfl, h9b, h9c⟩ := hp9
          rw [h9b, h9c]
          clear h9b h9c F9 z9
          refine x_top (v := (nI (tmOf (A.2.2.1.2.2 (mIx A v)).2.2.2 (97 + i) (A.2.2.1.2.2 (mIx A v)).2.2.1))) rfl ?_
          refine x_iadd hC d_MessageCoderModel_learns_37 (v := (nI ((A.1 i) + (tmOf (A.2.2.1.2.2 (mIx A v)).2.2.2 (97 + i) (A.2.2.1.2.2 (mIx A v)).2.2.1)))) (x_addN (by omega)) ?_
          refine x_istore_n hC d_MessageCoderModel_learns_38 rfl (Nat.le_of_ble_eq_true rfl) (L1 := [some (.ref m), some (.int v), some (.int (nI (i))), some (.int (nI ((A.1 i) + (tmOf (A.2.2.1.2.2 (mIx A v)).2.2.2 (97 + i) (A.2.2.1.2.2 (mIx A v)).2.2.1))))]) rfl ?_
          refine x_aload_n hC d_MessageCoderModel_learns_39 rfl rfl ?_
          refine x_getf hC kf_MessageCoderModel_9 o0 rfl d_MessageCoderModel_learns_40 ?_
          refine x_bipush hC d_MessageCoderModel_learns_43 (v := nI 10) (by decide) ?_
          refine x_iload_n hC d_MessageCoderModel_learns_45 rfl rfl ?_
          refine x_iadd hC d_MessageCoderModel_learns_46 (v := (nI (10 + i))) (x_addN (by omega)) ?_
          refine x_iload_n hC d_MessageCoderModel_learns_47 rfl rfl ?_
          refine x_bipush hC d_MessageCoderModel_learns_48 (v := nI 99) (by decide) ?_
          refine x_icmpN_le hC d_MessageCoderModel_learns_50 (tgt := 58) (by decide) (by omega) (by omega) (fun c_50 => ?_) (fun c_50 => ?_)
          · skip
            refine x_iload_n hC d_MessageCoderModel_learns_58 rfl rfl ?_
            refine x_iast hC ga (j := 10 + i) ⟨rfl, by omega, by omega⟩ d_MessageCoderModel_learns_59 (g1 := fun b9 => nI (updN p1 (10 + i) ((A.1 i) + (tmOf (A.2.2.1.2.2 (mIx A v)).2.2.2 (97 + i) (A.2.2.1.2.2 (mIx A v)).2.2.1)) b9)) (x_updN _ _ _) ?_
            generalize egL : updN p1 (10 + i) ((A.1 i) + (tmOf (A.2.2.1.2.2 (mIx A v)).2.2.2 (97 + i) (A.2.2.1.2.2 (mIx A v)).2.2.1)) = gL
            generalize e3 : xup Fh12 (m + 1) (.inr (0, 4730, fun b9 => .int (nI (gL b9)))) = F3
            have o0 : F3 (m) = some (.inl (10, [.int (nI (th)), .ref (m + 1), .int (nI (ch)), .int (nI (sv)), .int rs, .ref (m + 2), .ref (m + 3), .ref (m + 4), .ref (m + 5), .ref (m + 6), .int (nI (bm)), .ref (m + 7), .int (nI (dm)), .ref (m + 8), .ref (m + 9), .int (nI (lz)), .ref (m + 10), .int (nI (ty)), .int (nI (he)), .int er, .int ea, .int fa, .ref (m + 11), .int (nI (cn))])) := by rw [← e3]; exact (xup_ne (by omega)).trans o0
            have ga : F3 (m + 1) = some (.inr (0, 4730, fun b9 => .int (nI (gL b9)))) := by rw [← e3]; exact xup_eq
            have hag : ∀ a9 : Nat, (a9 < m ∨ m + 2 ≤ a9) → F3 a9 = F a9 := fun a9 q0 => by rw [← e3]; exact (xup_ne (by omega)).trans (hag a9 q0)
            have hv : gL (10 + i) = lrnW A.1 (A.2.2.1.2.2 (mIx A v)) i := by rw [← egL, updN_at rfl]; unfold lrnW; first | (rw [if_pos (by omega)]; done) | (rw [if_neg (by omega)])
            have hf : ∀ q, q ≠ 10 + i → gL q = p1 q := fun q hq => by rw [← egL, updN_ne hq]
            have kr2 : rRow gL (lrnP A.1 (A.2.2.1.2.2 (mIx A v)) (i + 1), A.2) := by obtain ⟨⟨q0, q1, q2, q3, q4, q5, q6, q7, q9⟩, qw, qd, qm, qf, qx, qb⟩ := id kr1; exact ⟨⟨(hf 0 (by omega)).trans q0, (hf 1 (by omega)).trans q1, (hf 2 (by omega)).trans q2, (hf 3 (by omega)).trans q3, (hf 4 (by omega)).trans q4, (hf 5 (by omega)).trans q5, (hf 6 (by omega)).trans q6, (hf 7 (by omega)).trans q7, (hf 9 (by omega)).trans q9⟩, fun j hj => by show gL (10 + j) = lrnP A.1 (A.2.2.1.2.2 (mIx A v)) (i + 1) j; by_cases e : j = i; (rw [e, hv]; exact (if_pos (by omega)).symm); exact ((hf _ (by omega)).trans (qw j hj)).trans (show lrnP A.1 (A.2.2.1.2.2 (mIx A v)) i j = lrnP A.1 (A.2.2.1.2.2 (mIx A v)) (i + 1) j by unfold lrnP; by_cases c : j < i; (rw [if_pos c, if_pos (by omega)]); (rw [if_neg c, if_neg (by omega)])), fun j (hj : j < A.2.1.1) => by rw [hf _ (by omega)]; exact qd j hj, fun i (hi : i < A.2.2.1.1) => rMsg_ext (um i hi).2.2.1 (fun q hq => hf _ (by omega)) (qm i hi), fun (hk : 0 < A.2.2.2.1.1) => ⟨(hf 8 (by omega)).trans (qf hk).1, fun j hj => ⟨(hf _ (by omega)).trans ((qf hk).2.1 j hj).1, (hf _ (by omega)).trans ((qf hk).2.1 j hj).2⟩, fun j (hj : j < A.2.2.2.1.2.2.1) => by rw [hf _ (by omega)]; exact (qf hk).2.2 j hj⟩, fun j (hj : j < A.2.2.2.2.1.1) => by rw [hf _ (by omega)]; exact qx j hj, fun b (hb : b < A.2.2.2.1.1) p hp => (hf _ (by omega)).trans (qb b hb p hp)⟩
            refine x_iinc hC d_MessageCoderModel_learns_60 rfl (v := (nI (i + 1))) (x_incN 1) (Nat.le_of_ble_eq_true rfl) (L1 := [some (.ref m), some (.int v), some (.int (nI (i + 1))), some (.int (nI ((A.1 i) + (tmOf (A.2.2.1.2.2 (mIx A v)).2.2.2 (97 + i) (A.2.2.1.2.2 (mIx A v)).2.2.1))))]) rfl ?_
            refine x_goto hC d_MessageCoderModel_learns_63 (tgt := 12) (by decide) ?_
            refine x_forget (L1 := [some (.ref m), some (.int v), some (.int (nI (i + 1))), none]) ⟨Or.inr rfl, ⟨Or.inr rfl, ⟨Or.inr rfl, ⟨Or.inl rfl, trivial⟩⟩⟩⟩ ?_
            exact ih_12 F3 (i + 1) (gL) o0 ga hag (by omega) (kr2) (fun q hq => (hf q (by omega)).trans (ko q hq)) (by omega)
          · skip
            refine x_bipush hC d_MessageCoderModel_learns_53 (v := nI 99) (by decide) ?_
            refine x_goto hC d_MessageCoderModel_learns_55 (tgt := 59) (by decide) ?_
            refine x_iast hC ga (j := 10 + i) ⟨rfl, by omega, by omega⟩ d_MessageCoderModel_learns_59 (g1 := fun b9 => nI (updN p1 (10 + i) (99) b9)) (x_updN _ _ _) ?_
            generalize egL : updN p1 (10 + i) (99) = gL
            generalize e5 : xup Fh12 (m + 1) (.inr (0, 4730, fun b9 => .int (nI (gL b9)))) = F5
            have o0 : F5 (m) = some (.inl (10, [.int (nI (th)), .ref (m + 1), .int (nI (ch)), .int (nI (sv)), .int rs, .ref (m + 2), .ref (m + 3), .ref (m + 4), .ref (m + 5), .ref (m + 6), .int (nI (bm)), .ref (m + 7), .int (nI (dm)), .ref (m + 8), .ref (m + 9), .int (nI (lz)), .ref (m + 10), .int (nI (ty)), .int (nI (he)), .int er, .int ea, .int fa, .ref (m + 11), .int (nI (cn))])) := by rw [← e5]; exact (xup_ne (by omega)).trans o0
            have ga : F5 (m + 1) = some (.inr (0, 4730, fun b9 => .int (nI (gL b9)))) := by rw [← e5]; exact xup_eq
            have hag : ∀ a9 : Nat, (a9 < m ∨ m + 2 ≤ a9) → F5 a9 = F a9 := fun a9 q0 => by rw [← e5]; exact (xup_ne (by omega)).trans (hag a9 q0)
            have hv : gL (10 + i) = lrnW A.1 (A.2.2.1.2.2 (mIx A v)) i := by rw [← egL, updN_at rfl]; unfold lrnW; first | (rw [if_pos (by omega)]; done) | (rw [if_neg (by omega)])
            have hf : ∀ q, q ≠ 10 + i → gL q = p1 q := fun q hq => by rw [← egL, updN_ne hq]
            have kr2 : rRow gL (lrnP A.1 (A.2.2.1.2.2 (mIx A v)) (i + 1), A.2) := by obtain ⟨⟨q0, q1, q2, q3, q4, q5, q6, q7, q9⟩, qw, qd, qm, qf, qx, qb⟩ := id kr1; exact ⟨⟨(hf 0 (by omega)).trans q0, (hf 1 (by omega)).trans q1, (hf 2 (by omega)).trans q2, (hf 3 (by omega)).trans q3, (hf 4 (by omega)).trans q4, (hf 5 (by omega)).trans q5, (hf 6 (by omega)).trans q6, (hf 7 (by omega)).trans q7, (hf 9 (by omega)).trans q9⟩, fun j hj => by show gL (10 + j) = lrnP A.1 (A.2.2.1.2.2 (mIx A v)) (i + 1) j; by_cases e : j = i; (rw [e, hv]; exact (if_pos (by omega)).symm); exact ((hf _ (by omega)).trans (qw j hj)).trans (show lrnP A.1 (A.2.2.1.2.2 (mIx A v)) i j = lrnP A.1 (A.2.2.1.2.2 (mIx A v)) (i + 1) j by unfold lrnP; by_cases c : j < i; (rw [if_pos c, if_pos (by omega)]); (rw [if_neg c, if_neg (by omega)])), fun j (hj : j < A.2.1.1) => by rw [hf _ (by omega)]; exact qd j hj, fun i (hi : i < A.2.2.1.1) => rMsg_ext (um i hi).2.2.1 (fun q hq => hf _ (by omega)) (qm i hi), fun (hk : 0 < A.2.2.2.1.1) => ⟨(hf 8 (by omega)).trans (qf hk).1, fun j hj => ⟨(hf _ (by omega)).trans ((qf hk).2.1 j hj).1, (hf _ (by omega)).trans ((qf hk).2.1 j hj).2⟩, fun j (hj : j < A.2.2.2.1.2.2.1) => by rw [hf _ (by omega)]; exact (qf hk).2.2 j hj⟩, fun j (hj : j < A.2.2.2.2.1.1) => by rw [hf _ (by omega)]; exact qx j hj, fun b (hb : b < A.2.2.2.1.1) p hp => (hf _ (by omega)).trans (qb b hb p hp)⟩
            refine x_iinc hC d_MessageCoderModel_learns_60 rfl (v := (nI (i + 1))) (x_incN 1) (Nat.le_of_ble_eq_true rfl) (L1 := [some (.ref m), some (.int v), some (.int (nI (i + 1))), some (.int (nI ((A.1 i) + (tmOf (A.2.2.1.2.2 (mIx A v)).2.2.2 (97 + i) (A.2.2.1.2.2 (mIx A v)).2.2.1))))]) rfl ?_
            refine x_goto hC d_MessageCoderModel_learns_63 (tgt := 12) (by decide) ?_
            refine x_forget (L1 := [some (.ref m), some (.int v), some (.int (nI (i + 1))), none]) ⟨Or.inr rfl, ⟨Or.inr rfl, ⟨Or.inr rfl, ⟨Or.inl rfl, trivial⟩⟩⟩⟩ ?_
            exact ih_12 F5 (i + 1) (gL) o0 ga hag (by omega) (kr2) (fun q hq => (hf q (by omega)).trans (ko q hq)) (by omega)
    exact loop_12 (8 - 0 + 1) F (0) (g) o0 ga hag (by omega) (kr0) (fun _ _ => rfl) (by omega)
  · skip
    refine x_iconst hC d_MessageCoderModel_learns_8 (v := nI 3) (by decide) ?_
    refine hret _ _ _ _ _ _ _ d_MessageCoderModel_learns_9 (by decide) (by decide) rfl ?_
    have e9 : aLe A v = (-3, A) := if_neg c_5
    exact ⟨g, rs, by rw [e9]; rfl, rfl, o0, ga, by rw [e9]; exact hr, fun _ _ => rfl, fun h9 => absurd h9 (by rw [e9]; show ¬ codN (-3) = 0; decide), hag⟩

theorem d_MessageCoderModel_frames_0 : decode prog_14_method_45_code 0 = .ok (.sipush 234, 3) := by decide +kernel
theorem d_MessageCoderModel_frames_3 : decode prog_14_method_45_code 3 = .ok (.bipush 7, 2) := by decide +kernel
theorem d_MessageCoderModel_frames_5 : decode prog_14_method_45_code 5 = .ok (.iload_n 1, 1) := by decide +kernel
theorem d_MessageCoderModel_frames_6 : decode prog_14_method_45_code 6 = .ok (.imul, 1) := by decide +kernel
theorem d_MessageCoderModel_frames_7 : decode prog_14_method_45_code 7 = .ok (.iadd, 1) := by decide +kernel
theorem d_MessageCoderModel_frames_8 : decode prog_14_method_45_code 8 = .ok (.istore_n 2, 1) := by decide +kernel
theorem d_MessageCoderModel_frames_9 : decode prog_14_method_45_code 9 = .ok (.aload_n 0, 1) := by decide +kernel
theorem d_MessageCoderModel_frames_10 : decode prog_14_method_45_code 10 = .ok (.iconst 4, 1) := by decide +kernel
theorem d_MessageCoderModel_frames_11 : decode prog_14_method_45_code 11 = .ok (.iload_n 1, 1) := by decide +kernel
theorem d_MessageCoderModel_frames_12 : decode prog_14_method_45_code 12 = .ok (.imul, 1) := by decide +kernel
theorem d_MessageCoderModel_frames_13 : decode prog_14_method_45_code 13 = .ok (.invokevirtual 164, 3) := by decide +kernel
theorem d_MessageCoderModel_frames_16 : decode prog_14_method_45_code 16 = .ok (.istore_n 3, 1) := by decide +kernel
theorem d_MessageCoderModel_frames_17 : decode prog_14_method_45_code 17 = .ok (.aload_n 0, 1) := by decide +kernel
theorem d_MessageCoderModel_frames_18 : decode prog_14_method_45_code 18 = .ok (.iconst 4, 1) := by decide +kernel
theorem d_MessageCoderModel_frames_19 : decode prog_14_method_45_code 19 = .ok (.iload_n 1, 1) := by decide +kernel
theorem d_MessageCoderModel_frames_20 : decode prog_14_method_45_code 20 = .ok (.imul, 1) := by decide +kernel
theorem d_MessageCoderModel_frames_21 : decode prog_14_method_45_code 21 = .ok (.iconst 1, 1) := by decide +kernel
theorem d_MessageCoderModel_frames_22 : decode prog_14_method_45_code 22 = .ok (.iadd, 1) := by decide +kernel
theorem d_MessageCoderModel_frames_23 : decode prog_14_method_45_code 23 = .ok (.invokevirtual 164, 3) := by decide +kernel
theorem d_MessageCoderModel_frames_26 : decode prog_14_method_45_code 26 = .ok (.istore 4, 2) := by decide +kernel
theorem d_MessageCoderModel_frames_28 : decode prog_14_method_45_code 28 = .ok (.aload_n 0, 1) := by decide +kernel
theorem d_MessageCoderModel_frames_29 : decode prog_14_method_45_code 29 = .ok (.iconst 4, 1) := by decide +kernel
theorem d_MessageCoderModel_frames_30 : decode prog_14_method_45_code 30 = .ok (.iload_n 1, 1) := by decide +kernel
theorem d_MessageCoderModel_frames_31 : decode prog_14_method_45_code 31 = .ok (.imul, 1) := by decide +kernel
theorem d_MessageCoderModel_frames_32 : decode prog_14_method_45_code 32 = .ok (.iconst 2, 1) := by decide +kernel
theorem d_MessageCoderModel_frames_33 : decode prog_14_method_45_code 33 = .ok (.iadd, 1) := by decide +kernel
theorem d_MessageCoderModel_frames_34 : decode prog_14_method_45_code 34 = .ok (.invokevirtual 164, 3) := by decide +kernel
theorem d_MessageCoderModel_frames_37 : decode prog_14_method_45_code 37 = .ok (.istore 5, 2) := by decide +kernel
theorem d_MessageCoderModel_frames_39 : decode prog_14_method_45_code 39 = .ok (.aload_n 0, 1) := by decide +kernel
theorem d_MessageCoderModel_frames_40 : decode prog_14_method_45_code 40 = .ok (.iconst 4, 1) := by decide +kernel
theorem d_MessageCoderModel_frames_41 : decode prog_14_method_45_code 41 = .ok (.iload_n 1, 1) := by decide +kernel
theorem d_MessageCoderModel_frames_42 : decode prog_14_method_45_code 42 = .ok (.imul, 1) := by decide +kernel
theorem d_MessageCoderModel_frames_43 : decode prog_14_method_45_code 43 = .ok (.iconst 3, 1) := by decide +kernel
theorem d_MessageCoderModel_frames_44 : decode prog_14_method_45_code 44 = .ok (.iadd, 1) := by decide +kernel
theorem d_MessageCoderModel_frames_45 : decode prog_14_method_45_code 45 = .ok (.invokevirtual 164, 3) := by decide +kernel
theorem d_MessageCoderModel_frames_48 : decode prog_14_method_45_code 48 = .ok (.istore 6, 2) := by decide +kernel
theorem d_MessageCoderModel_frames_50 : decode prog_14_method_45_code 50 = .ok (.aload_n 0, 1) := by decide +kernel
theorem d_MessageCoderModel_frames_51 : decode prog_14_method_45_code 51 = .ok (.getfield 9, 3) := by decide +kernel
theorem d_MessageCoderModel_frames_54 : decode prog_14_method_45_code 54 = .ok (.iload_n 2, 1) := by decide +kernel
theorem d_MessageCoderModel_frames_55 : decode prog_14_method_45_code 55 = .ok (.iload_n 3, 1) := by decide +kernel
theorem d_MessageCoderModel_frames_56 : decode prog_14_method_45_code 56 = .ok (.iload 4, 2) := by decide +kernel
theorem d_MessageCoderModel_frames_58 : decode prog_14_method_45_code 58 = .ok (.ixor, 1) := by decide +kernel
theorem d_MessageCoderModel_frames_59 : decode prog_14_method_45_code 59 = .ok (.iload 6, 2) := by decide +kernel
theorem d_MessageCoderModel_frames_61 : decode prog_14_method_45_code 61 = .ok (.ixor, 1) := by decide +kernel
theorem d_MessageCoderModel_frames_62 : decode prog_14_method_45_code 62 = .ok (.iastore, 1) := by decide +kernel
theorem d_MessageCoderModel_frames_63 : decode prog_14_method_45_code 63 = .ok (.aload_n 0, 1) := by decide +kernel
theorem d_MessageCoderModel_frames_64 : decode prog_14_method_45_code 64 = .ok (.getfield 9, 3) := by decide +kernel
theorem d_MessageCoderModel_frames_67 : decode prog_14_method_45_code 67 = .ok (.iload_n 2, 1) := by decide +kernel
theorem d_MessageCoderModel_frames_68 : decode prog_14_method_45_code 68 = .ok (.iconst 1, 1) := by decide +kernel
theorem d_MessageCoderModel_frames_69 : decode prog_14_method_45_code 69 = .ok (.iadd, 1) := by decide +kernel
theorem d_MessageCoderModel_frames_70 : decode prog_14_method_45_code 70 = .ok (.iload_n 3, 1) := by decide +kernel
theorem d_MessageCoderModel_frames_71 : decode prog_14_method_45_code 71 = .ok (.iload 5, 2) := by decide +kernel
theorem d_MessageCoderModel_frames_73 : decode prog_14_method_45_code 73 = .ok (.ixor, 1) := by decide +kernel
theorem d_MessageCoderModel_frames_74 : decode prog_14_method_45_code 74 = .ok (.iload 6, 2) := by decide +kernel
theorem d_MessageCoderModel_frames_76 : decode prog_14_method_45_code 76 = .ok (.ixor, 1) := by decide +kernel
theorem d_MessageCoderModel_frames_77 : decode prog_14_method_45_code 77 = .ok (.iastore, 1) := by decide +kernel
theorem d_MessageCoderModel_frames_78 : decode prog_14_method_45_code 78 = .ok (.aload_n 0, 1) := by decide +kernel
theorem d_MessageCoderModel_frames_79 : decode prog_14_method_45_code 79 = .ok (.getfield 9, 3) := by decide +kernel
theorem d_MessageCoderModel_frames_82 : decode prog_14_method_45_code 82 = .ok (.iload_n 2, 1) := by decide +kernel
theorem d_MessageCoderModel_frames_83 : decode prog_14_method_45_code 83 = .ok (.iconst 2, 1) := by decide +kernel
theorem d_MessageCoderModel_frames_84 : decode prog_14_method_45_code 84 = .ok (.iadd, 1) := by decide +kernel
theorem d_MessageCoderModel_frames_85 : decode prog_14_method_45_code 85 = .ok (.iload_n 3, 1) := by decide +kernel
theorem d_MessageCoderModel_frames_86 : decode prog_14_method_45_code 86 = .ok (.iastore, 1) := by decide +kernel
theorem d_MessageCoderModel_frames_87 : decode prog_14_method_45_code 87 = .ok (.aload_n 0, 1) := by decide +kernel
theorem d_MessageCoderModel_frames_88 : decode prog_14_method_45_code 88 = .ok (.getfield 9, 3) := by decide +kernel
theorem d_MessageCoderModel_frames_91 : decode prog_14_method_45_code 91 = .ok (.iload_n 2, 1) := by decide +kernel
theorem d_MessageCoderModel_frames_92 : decode prog_14_method_45_code 92 = .ok (.iconst 3, 1) := by decide +kernel
theorem d_MessageCoderModel_frames_93 : decode prog_14_method_45_code 93 = .ok (.iadd, 1) := by decide +kernel
theorem d_MessageCoderModel_frames_94 : decode prog_14_method_45_code 94 = .ok (.iload 4, 2) := by decide +kernel
theorem d_MessageCoderModel_frames_96 : decode prog_14_method_45_code 96 = .ok (.iload 5, 2) := by decide +kernel
theorem d_MessageCoderModel_frames_98 : decode prog_14_method_45_code 98 = .ok (.ixor, 1) := by decide +kernel
theorem d_MessageCoderModel_frames_99 : decode prog_14_method_45_code 99 = .ok (.iload 6, 2) := by decide +kernel
theorem d_MessageCoderModel_frames_101 : decode prog_14_method_45_code 101 = .ok (.ixor, 1) := by decide +kernel
theorem d_MessageCoderModel_frames_102 : decode prog_14_method_45_code 102 = .ok (.iastore, 1) := by decide +kernel
theorem d_MessageCoderModel_frames_103 : decode prog_14_method_45_code 103 = .ok (.aload_n 0, 1) := by decide +kernel
theorem d_MessageCoderModel_frames_104 : decode prog_14_method_45_code 104 = .ok (.getfield 9, 3) := by decide +kernel
theorem d_MessageCoderModel_frames_107 : decode prog_14_method_45_code 107 = .ok (.iload_n 2, 1) := by decide +kernel
theorem d_MessageCoderModel_frames_108 : decode prog_14_method_45_code 108 = .ok (.iconst 4, 1) := by decide +kernel
theorem d_MessageCoderModel_frames_109 : decode prog_14_method_45_code 109 = .ok (.iadd, 1) := by decide +kernel
theorem d_MessageCoderModel_frames_110 : decode prog_14_method_45_code 110 = .ok (.iload 4, 2) := by decide +kernel
theorem d_MessageCoderModel_frames_112 : decode prog_14_method_45_code 112 = .ok (.iastore, 1) := by decide +kernel
theorem d_MessageCoderModel_frames_113 : decode prog_14_method_45_code 113 = .ok (.aload_n 0, 1) := by decide +kernel
theorem d_MessageCoderModel_frames_114 : decode prog_14_method_45_code 114 = .ok (.getfield 9, 3) := by decide +kernel
theorem d_MessageCoderModel_frames_117 : decode prog_14_method_45_code 117 = .ok (.iload_n 2, 1) := by decide +kernel
theorem d_MessageCoderModel_frames_118 : decode prog_14_method_45_code 118 = .ok (.iconst 5, 1) := by decide +kernel
theorem d_MessageCoderModel_frames_119 : decode prog_14_method_45_code 119 = .ok (.iadd, 1) := by decide +kernel
theorem d_MessageCoderModel_frames_120 : decode prog_14_method_45_code 120 = .ok (.iload 5, 2) := by decide +kernel
theorem d_MessageCoderModel_frames_122 : decode prog_14_method_45_code 122 = .ok (.iastore, 1) := by decide +kernel
theorem d_MessageCoderModel_frames_123 : decode prog_14_method_45_code 123 = .ok (.aload_n 0, 1) := by decide +kernel
theorem d_MessageCoderModel_frames_124 : decode prog_14_method_45_code 124 = .ok (.getfield 9, 3) := by decide +kernel
theorem d_MessageCoderModel_frames_127 : decode prog_14_method_45_code 127 = .ok (.iload_n 2, 1) := by decide +kernel
theorem d_MessageCoderModel_frames_128 : decode prog_14_method_45_code 128 = .ok (.bipush 6, 2) := by decide +kernel
theorem d_MessageCoderModel_frames_130 : decode prog_14_method_45_code 130 = .ok (.iadd, 1) := by decide +kernel
theorem d_MessageCoderModel_frames_131 : decode prog_14_method_45_code 131 = .ok (.iload 6, 2) := by decide +kernel
theorem d_MessageCoderModel_frames_133 : decode prog_14_method_45_code 133 = .ok (.iastore, 1) := by decide +kernel
theorem d_MessageCoderModel_frames_134 : decode prog_14_method_45_code 134 = .ok (.return_, 1) := by decide +kernel
set_option maxHeartbeats 4000000 in
set_option maxRecDepth 20000 in
theorem c_MessageCoderModel_frames {P : xP} {F : xF} {z : Nat} {m : Nat} {th : Nat} {ch : Nat} {sv : Nat} {rs : Int32} {bm : Nat} {dm : Nat} {lz : Nat} {ty : Nat} {he : Nat} {er : Int32} {ea : Int32} {fa : Int32} {cn : Nat} {g : Nat → Nat} {b1 : Nat → Nat} {b : Nat} (o0 : F (m) = some (.inl (10, [.int (nI (th)), .ref (m + 1), .int (nI (ch)), .int (nI (sv)), .int rs, .ref (m + 2), .ref (m + 3), .ref (m + 4), .ref (m + 5), .ref (m + 6), .int (nI (bm)), .ref (m + 7), .int (nI (dm)), .ref (m + 8), .ref (m + 9), .int (nI (lz)), .ref (m + 10), .int (nI (ty)), .int (nI (he)), .int er, .int ea, .int fa, .ref (m + 11), .int (nI (cn))]))) (ga : F (m + 1) = some (.inr (0, 4730, fun b9 => .int (nI (g b9))))) (h6 : F (m + 6) = some (.inr (0, 112, fun b9 => .int (nI (b1 b9))))) (hb : b < 28) (hbm : bm ≤ 112) (hb1 : ∀ j, j < bm → b1 j ≤ 1) : xM P xy_MessageCoderModel_frames [.ref m, .int (nI (b))] F (z) 0 0 (fun r9 F9 z9 => ∃ g1 : Nat → Nat, r9 = none ∧ z9 = z ∧ F9 (m) = some (.inl (10, [.int (nI (th)), .ref (m + 1), .int (nI (ch)), .int (nI (sv)), .int rs, .ref (m + 2), .ref (m + 3), .ref (m + 4), .ref (m + 5), .ref (m + 6), .int (nI (bm)), .ref (m + 7), .int (nI (dm)), .ref (m + 8), .ref (m + 9), .int (nI (lz)), .ref (m + 10), .int (nI (ty)), .int (nI (he)), .int er, .int ea, .int fa, .ref (m + 11), .int (nI (cn))])) ∧ F9 (m + 1) = some (.inr (0, 4730, fun b9 => .int (nI (g1 b9)))) ∧ F9 (m + 6) = some (.inr (0, 112, fun b9 => .int (nI (b1 b9)))) ∧ (∀ u, u < 7 → g1 (234 + 7 * b + u) = bitP (blkN (fourB bm b1 0 (4 * b))) (u + 1)) ∧ (∀ q, q < 234 + 7 * b ∨ 234 + 7 * b + 7 ≤ q → g1 q = g q) ∧ (∀ a9 : Nat, (a9 < m + 1 ∨ m + 1 + 1 ≤ a9) → F9 a9 = F a9)) := by
  refine xM_v rfl (Nat.le_of_ble_eq_true rfl) (L0 := [some (.ref m), some (.int (nI (b))), none, none, none, none, none]) rfl rfl fun Θ hC hin hret => ?_
  have hag : ∀ a9 : Nat, (a9 < m + 1 ∨ m + 1 + 1 ≤ a9) → F a9 = F a9 := fun a9 _ => rfl
  refine x_sipush hC d_MessageCoderModel_frames_0 (v := nI 234) (by decide) ?_
  refine x_bipush hC d_MessageCoderModel_frames_3 (v := nI 7) (by decide) ?_
  refine x_iload_n hC d_MessageCoderModel_frames_5 rfl rfl ?_
  refine x_imul hC d_MessageCoderModel_frames_6 (v := (nI ((7) * (b)))) (pk_mul _ _) ?_
  refine x_iadd hC d_MessageCoderModel_frames_7 (v := (nI ((234) + ((7) * (b))))) (x_addN (by omega)) ?_
  refine x_istore_n hC d_MessageCoderModel_frames_8 rfl (Nat.le_of_ble_eq_true rfl) (L1 := [some (.ref m), some (.int (nI (b))), some (.int (nI ((234) + ((7) * (b))))), none, none, none, none]) rfl ?_
  refine x_aload_n hC d_MessageCoderModel_frames_9 rfl rfl ?_
  refine x_iconst hC d_MessageCoderModel_frames_10 (v := nI 4) (by decide) ?_
  refine x_iload_n hC d_MessageCoderModel_frames_11 rfl rfl ?_
  refine x_imul hC d_MessageCoderModel_frames_12 (v := (nI ((4) * (b)))) (pk_mul _ _) ?_
  refine x_callV hC kv_MessageCoderModel_164 (c_MessageCoderModel_bit (o0 := o0) (h6 := h6) (hi := by omega) (hb := hbm)) o0 rfl rfl (by decide) rfl rfl rfl (Nat.le_of_ble_eq_true rfl) (by decide) d_MessageCoderModel_frames_13 (fun r9 F9 z9 hp9 => ?_)
  obtain ⟨rfl, h9b, h9c⟩ := hp9
  rw [h9b, h9c]
  clear h9b h9c F9 z9
  refine x_top (v := (nI (zbt bm b1 0 (4 * b)))) (congrArg nI zb_if) ?_
  refine x_istore_n hC d_MessageCoderModel_frames_16 rfl (Nat.le_of_ble_eq_true rfl) (L1 := [some (.ref m), some (.int (nI (b))), some (.int (nI ((234) + ((7) * (b))))), some (.int (nI (zbt bm b1 0 (4 * b)))), none, none, none]) rfl ?_
  refine x_aload_n hC d_MessageCoderModel_frames_17 rfl rfl ?_
  refine x_iconst hC d_MessageCoderModel_frames_18 (v := nI 4) (by decide) ?_
  refine x_iload_n hC d_MessageCoderModel_frames_19 rfl rfl ?_
  refine x_imul hC d_MessageCoderModel_frames_20 (v := (nI ((4) * (b)))) (pk_mul _ _) ?_
  refine x_iconst hC d_MessageCoderModel_frames_21 (v := nI 1) (by decide) ?_
  refine x_iadd hC d_MessageCoderModel_frames_22 (v := (nI ((4) * (b) + 1))) (x_addN (by omega)) ?_
  refine x_callV hC kv_MessageCoderModel_164 (c_MessageCoderModel_bit (o0 := o0) (h6 := h6) (hi := by omega) (hb := hbm)) o0 rfl rfl (by decide) rfl rfl rfl (Nat.le_of_ble_eq_true rfl) (by decide) d_MessageCoderModel_frames_23 (fun r9 F9 z9 hp9 => ?_)
  obtain ⟨rfl, h9b, h9c⟩ := hp9
  rw [h9b, h9c]
  clear h9b h9c F9 z9
  refine x_top (v := (nI (zbt bm b1 0 (4 * b + 1)))) (congrArg nI zb_if) ?_
  refine x_istore hC d_MessageCoderModel_frames_26 (Nat.le_of_ble_eq_true rfl) (L1 := [some (.ref m), some (.int (nI (b))), some (.int (nI ((234) + ((7) * (b))))), some (.int (nI (zbt bm b1 0 (4 * b)))), some (.int (nI (zbt bm b1 0 (4 * b + 1)))), none, none]) rfl ?_
  refine x_aload_n hC d_MessageCoderModel_frames_28 rfl rfl ?_
  refine x_iconst hC d_MessageCoderModel_frames_29 (v := nI 4) (by decide) ?_
  refine x_iload_n hC d_MessageCoderModel_frames_30 rfl rfl ?_
  refine x_imul hC d_MessageCoderModel_frames_31 (v := (nI ((4) * (b)))) (pk_mul _ _) ?_
  refine x_iconst hC d_MessageCoderModel_frames_32 (v := nI 2) (by decide) ?_
  refine x_iadd hC d_MessageCoderModel_frames_33 (v := (nI ((4) * (b) + 2))) (x_addN (by omega)) ?_
  refine x_callV hC kv_MessageCoderModel_164 (c_MessageCoderModel_bit (o0 := o0) (h6 := h6) (hi := by omega) (hb := hbm)) o0 rfl rfl (by decide) rfl rfl rfl (Nat.le_of_ble_eq_true rfl) (by decide) d_MessageCoderModel_frames_34 (fun r9 F9 z9 hp9 => ?_)
  obtain ⟨rfl, h9b, h9c⟩ := hp9
  rw [h9b, h9c]
  clear h9b h9c F9 z9
  refine x_top (v := (nI (zbt bm b1 0 (4 * b + 2)))) (congrArg nI zb_if) ?_
  refine x_istore hC d_MessageCoderModel_frames_37 (Nat.le_of_ble_eq_true rfl) (L1 := [some (.ref m), some (.int (nI (b))), some (.int (nI ((234) + ((7) * (b))))), some (.int (nI (zbt bm b1 0 (4 * b)))), some (.int (nI (zbt bm b1 0 (4 * b + 1)))), some (.int (nI (zbt bm b1 0 (4 * b + 2)))), none]) rfl ?_
  refine x_aload_n hC d_MessageCoderModel_frames_39 rfl rfl ?_
  refine x_iconst hC d_MessageCoderModel_frames_40 (v := nI 4) (by decide) ?_
  refine x_iload_n hC d_MessageCoderModel_frames_41 rfl rfl ?_
  refine x_imul hC d_MessageCoderModel_frames_42 (v := (nI ((4) * (b)))) (pk_mul _ _) ?_
  refine x_iconst hC d_MessageCoderModel_frames_43 (v := nI 3) (by decide) ?_
  refine x_iadd hC d_MessageCoderModel_frames_44 (v := (nI ((4) * (b) + 3))) (x_addN (by omega)) ?_
  refine x_callV hC kv_MessageCoderModel_164 (c_MessageCoderModel_bit (o0 := o0) (h6 := h6) (hi := by omega) (hb := hbm)) o0 rfl rfl (by decide) rfl rfl rfl (Nat.le_of_ble_eq_true rfl) (by decide) d_MessageCoderModel_frames_45 (fun r9 F9 z9 hp9 => ?_)
  obtain ⟨rfl, h9b, h9c⟩ := hp9
  rw [h9b, h9c]
  clear h9b h9c F9 z9
  refine x_top (v := (nI (zbt bm b1 0 (4 * b + 3)))) (congrArg nI zb_if) ?_
  refine x_istore hC d_MessageCoderModel_frames_48 (Nat.le_of_ble_eq_true rfl) (L1 := [some (.ref m), some (.int (nI (b))), some (.int (nI ((234) + ((7) * (b))))), some (.int (nI (zbt bm b1 0 (4 * b)))), some (.int (nI (zbt bm b1 0 (4 * b + 1)))), some (.int (nI (zbt bm b1 0 (4 * b + 2)))), some (.int (nI (zbt bm b1 0 (4 * b + 3))))]) rfl ?_
  refine x_aload_n hC d_MessageCoderModel_frames_50 rfl rfl ?_
  refine x_getf hC kf_MessageCoderModel_9 o0 rfl d_MessageCoderModel_frames_51 ?_
  refine x_iload_n hC d_MessageCoderModel_frames_54 rfl rfl ?_
  refine x_iload_n hC d_MessageCoderModel_frames_55 rfl rfl ?_
  refine x_iload hC d_MessageCoderModel_frames_56 rfl ?_
  refine x_ixor hC d_MessageCoderModel_frames_58 (v := (nI (zbt bm b1 0 (4 * b) ^^^ zbt bm b1 0 (4 * b + 1)))) (x_xorN _ _) ?_
  refine x_iload hC d_MessageCoderModel_frames_59 rfl ?_
  refine x_ixor hC d_MessageCoderModel_frames_61 (v := (nI (zbt bm b1 0 (4 * b) ^^^ zbt bm b1 0 (4 * b + 1) ^^^ zbt bm b1 0 (4 * b + 3)))) (x_xorN _ _) ?_
  refine x_iast hC ga (j := (234) + ((7) * (b))) ⟨rfl, by omega, by omega⟩ d_MessageCoderModel_frames_62 (g1 := fun b9 => nI (updN g ((234) + ((7) * (b))) (zbt bm b1 0 (4 * b) ^^^ zbt bm b1 0 (4 * b + 1) ^^^ zbt bm b1 0 (4 * b + 3)) b9)) (x_updN _ _ _) ?_
  generalize ef0 : updN g ((234) + ((7) * (b))) (zbt bm b1 0 (4 * b) ^^^ zbt bm b1 0 (4 * b + 1) ^^^ zbt bm b1 0 (4 * b + 3)) = f0
  generalize e2 : xup F (m + 1) (.inr (0, 4730, fun b9 => .int (nI (f0 b9)))) = F2
  have o0 : F2 (m) = some (.inl (10, [.int (nI (th)), .ref (m + 1), .int (nI (ch)), .int (nI (sv)), .int rs, .ref (m + 2), .ref (m + 3), .ref (m + 4), .ref (m + 5), .ref (m + 6), .int (nI (bm)), .ref (m + 7), .int (nI (dm)), .ref (m + 8), .ref (m + 9), .int (nI (lz)), .ref (m + 10), .int (nI (ty)), .int (nI (he)), .int er, .int ea, .int fa, .ref (m + 11), .int (nI (cn))])) := by rw [← e2]; exact (xup_ne (by omega)).trans o0
  have ga : F2 (m + 1) = some (.inr (0, 4730, fun b9 => .int (nI (f0 b9)))) := by rw [← e2]; exact xup_eq
  have h6 : F2 (m + 6) = some (.inr (0, 112, fun b9 => .int (nI (b1 b9)))) := by rw [← e2]; exact (xup_ne (by omega)).trans h6
  have hag : ∀ a9 : Nat, (a9 < m + 1 ∨ m + 1 + 1 ≤ a9) → F2 a9 = F a9 := fun a9 q0 => by rw [← e2]; exact (xup_ne (by omega)).trans (hag a9 q0)
  refine x_aload_n hC d_MessageCoderModel_frames_63 rfl rfl ?_
  refine x_getf hC kf_MessageCoderModel_9 o0 rfl d_MessageCoderModel_frames_64 ?_
  refine x_iload_n hC d_MessageCoderModel_frames_67 rfl rfl ?_
  refine x_iconst hC d_MessageCoderModel_frames_68 (v := nI 1) (by decide) ?_
  refine x_iadd hC d_MessageCoderModel_frames_69 (v := (nI ((234) + ((7) * (b)) + 1))) (x_addN (by omega)) ?_
  refine x_iload_n hC d_MessageCoderModel_frames_70 rfl rfl ?_
  refine x_iload hC d_MessageCoderModel_frames_71 rfl ?_
  refine x_ixor hC d_MessageCoderModel_frames_73 (v := (nI (zbt bm b1 0 (4 * b) ^^^ zbt bm b1 0 (4 * b + 2)))) (x_xorN _ _) ?_
  refine x_iload hC d_MessageCoderModel_frames_74 rfl ?_
  refine x_ixor hC d_MessageCoderModel_frames_76 (v := (nI (zbt bm b1 0 (4 * b) ^^^ zbt bm b1 0 (4 * b + 2) ^^^ zbt bm b1 0 (4 * b + 3)))) (x_xorN _ _) ?_
  refine x_iast hC ga (j := (234) + ((7) * (b)) + 1) ⟨rfl, by omega, by omega⟩ d_MessageCoderModel_frames_77 (g1 := fun b9 => nI (updN f0 ((234) + ((7) * (b)) + 1) (zbt bm b1 0 (4 * b) ^^^ zbt bm b1 0 (4 * b + 2) ^^^ zbt bm b1 0 (4 * b + 3)) b9)) (x_updN _ _ _) ?_
  generalize ef1 : updN f0 ((234) + ((7) * (b)) + 1) (zbt bm b1 0 (4 * b) ^^^ zbt bm b1 0 (4 * b + 2) ^^^ zbt bm b1 0 (4 * b + 3)) = f1
  generalize e4 : xup F2 (m + 1) (.inr (0, 4730, fun b9 => .int (nI (f1 b9)))) = F4
  have o0 : F4 (m) = some (.inl (10, [.int (nI (th)), .ref (m + 1), .int (nI (ch)), .int (nI (sv)), .int rs, .ref (m + 2), .ref (m + 3), .ref (m + 4), .ref (m + 5), .ref (m + 6), .int (nI (bm)), .ref (m + 7), .int (nI (dm)), .ref (m + 8), .ref (m + 9), .int (nI (lz)), .ref (m + 10), .int (nI (ty)), .int (nI (he)), .int er, .int ea, .int fa, .ref (m + 11), .int (nI (cn))])) := by rw [← e4]; exact (xup_ne (by omega)).trans o0
  have ga : F4 (m + 1) = some (.inr (0, 4730, fun b9 => .int (nI (f1 b9)))) := by rw [← e4]; exact xup_eq
  have h6 : F4 (m + 6) = some (.inr (0, 112, fun b9 => .int (nI (b1 b9)))) := by rw [← e4]; exact (xup_ne (by omega)).trans h6
  have hag : ∀ a9 : Nat, (a9 < m + 1 ∨ m + 1 + 1 ≤ a9) → F4 a9 = F a9 := fun a9 q0 => by rw [← e4]; exact (xup_ne (by omega)).trans (hag a9 q0)
  refine x_aload_n hC d_MessageCoderModel_frames_78 rfl rfl ?_
  refine x_getf hC kf_MessageCoderModel_9 o0 rfl d_MessageCoderModel_frames_79 ?_
  refine x_iload_n hC d_MessageCoderModel_frames_82 rfl rfl ?_
  refine x_iconst hC d_MessageCoderModel_frames_83 (v := nI 2) (by decide) ?_
  refine x_iadd hC d_MessageCoderModel_frames_84 (v := (nI ((234) + ((7) * (b)) + 2))) (x_addN (by omega)) ?_
  refine x_iload_n hC d_MessageCoderModel_frames_85 rfl rfl ?_
  refine x_iast hC ga (j := (234) + ((7) * (b)) + 2) ⟨rfl, by omega, by omega⟩ d_MessageCoderModel_frames_86 (g1 := fun b9 => nI (updN f1 ((234) + ((7) * (b)) + 2) (zbt bm b1 0 (4 * b)) b9)) (x_updN _ _ _) ?_
  generalize ef2 : updN f1 ((234) + ((7) * (b)) + 2) (zbt bm b1 0 (4 * b)) = f2
  generalize e6 : xup F4 (m + 1) (.inr (0, 4730, fun b9 => .int (nI (f2 b9)))) = F6
  have o0 : F6 (m) = some (.inl (10, [.int (nI (th)), .ref (m + 1), .int (nI (ch)), .int (nI (sv)), .int rs, .ref (m + 2), .ref (m + 3), .ref (m + 4), .ref (m + 5), .ref (m + 6), .int (nI (bm)), .ref (m + 7), .int (nI (dm)), .ref (m + 8), .ref (m + 9), .int (nI (lz)), .ref (m + 10), .int (nI (ty)), .int (nI (he)), .int er, .int ea, .int fa, .ref (m + 11), .int (nI (cn))])) := by rw [← e6]; exact (xup_ne (by omega)).trans o0
  have ga : F6 (m + 1) = some (.inr (0, 4730, fun b9 => .int (nI (f2 b9)))) := by rw [← e6]; exact xup_eq
  have h6 : F6 (m + 6) = some (.inr (0, 112, fun b9 => .int (nI (b1 b9)))) := by rw [← e6]; exact (xup_ne (by omega)).trans h6
  have hag : ∀ a9 : Nat, (a9 < m + 1 ∨ m + 1 + 1 ≤ a9) → F6 a9 = F a9 := fun a9 q0 => by rw [← e6]; exact (xup_ne (by omega)).trans (hag a9 q0)
  refine x_aload_n hC d_MessageCoderModel_frames_87 rfl rfl ?_
  refine x_getf hC kf_MessageCoderModel_9 o0 rfl d_MessageCoderModel_frames_88 ?_
  refine x_iload_n hC d_MessageCoderModel_frames_91 rfl rfl ?_
  refine x_iconst hC d_MessageCoderModel_frames_92 (v := nI 3) (by decide) ?_
  refine x_iadd hC d_MessageCoderModel_frames_93 (v := (nI ((234) + ((7) * (b)) + 3))) (x_addN (by omega)) ?_
  refine x_iload hC d_MessageCoderModel_frames_94 rfl ?_
  refine x_iload hC d_MessageCoderModel_frames_96 rfl ?_
  refine x_ixor hC d_MessageCoderModel_frames_98 (v := (nI (zbt bm b1 0 (4 * b + 1) ^^^ zbt bm b1 0 (4 * b + 2)))) (x_xorN _ _) ?_
  refine x_iload hC d_MessageCoderModel_frames_99 rfl ?_
  refine x_ixor hC d_MessageCoderModel_frames_101 (v := (nI (zbt bm b1 0 (4 * b + 1) ^^^ zbt bm b1 0 (4 * b + 2) ^^^ zbt bm b1 0 (4 * b + 3)))) (x_xorN _ _) ?_
  refine x_iast hC ga (j := (234) + ((7) * (b)) + 3) ⟨rfl, by omega, by omega⟩ d_MessageCoderModel_frames_102 (g1 := fun b9 => nI (updN f2 ((234) + ((7) * (b)) + 3) (zbt bm b1 0 (4 * b + 1) ^^^ zbt bm b1 0 (4 * b + 2) ^^^ zbt bm b1 0 (4 * b + 3)) b9)) (x_updN _ _ _) ?_
  generalize ef3 : updN f2 ((234) + ((7) * (b)) + 3) (zbt bm b1 0 (4 * b + 1) ^^^ zbt bm b1 0 (4 * b + 2) ^^^ zbt bm b1 0 (4 * b + 3)) = f3
  generalize e8 : xup F6 (m + 1) (.inr (0, 4730, fun b9 => .int (nI (f3 b9)))) = F8
  have o0 : F8 (m) = some (.inl (10, [.int (nI (th)), .ref (m + 1), .int (nI (ch)), .int (nI (sv)), .int rs, .ref (m + 2), .ref (m + 3), .ref (m + 4), .ref (m + 5), .ref (m + 6), .int (nI (bm)), .ref (m + 7), .int (nI (dm)), .ref (m + 8), .ref (m + 9), .int (nI (lz)), .ref (m + 10), .int (nI (ty)), .int (nI (he)), .int er, .int ea, .int fa, .ref (m + 11), .int (nI (cn))])) := by rw [← e8]; exact (xup_ne (by omega)).trans o0
  have ga : F8 (m + 1) = some (.inr (0, 4730, fun b9 => .int (nI (f3 b9)))) := by rw [← e8]; exact xup_eq
  have h6 : F8 (m + 6) = some (.inr (0, 112, fun b9 => .int (nI (b1 b9)))) := by rw [← e8]; exact (xup_ne (by omega)).trans h6
  have hag : ∀ a9 : Nat, (a9 < m + 1 ∨ m + 1 + 1 ≤ a9) → F8 a9 = F a9 := fun a9 q0 => by rw [← e8]; exact (xup_ne (by omega)).trans (hag a9 q0)
  refine x_aload_n hC d_MessageCoderModel_frames_103 rfl rfl ?_
  refine x_getf hC kf_MessageCoderModel_9 o0 rfl d_MessageCoderModel_frames_104 ?_
  refine x_iload_n hC d_MessageCoderModel_frames_107 rfl rfl ?_
  refine x_iconst hC d_MessageCoderModel_frames_108 (v := nI 4) (by decide) ?_
  refine x_iadd hC d_MessageCoderModel_frames_109 (v := (nI ((234) + ((7) * (b)) + 4))) (x_addN (by omega)) ?_
  refine x_iload hC d_MessageCoderModel_frames_110 rfl ?_
  refine x_iast hC ga (j := (234) + ((7) * (b)) + 4) ⟨rfl, by omega, by omega⟩ d_MessageCoderModel_frames_112 (g1 := fun b9 => nI (updN f3 ((234) + ((7) * (b)) + 4) (zbt bm b1 0 (4 * b + 1)) b9)) (x_updN _ _ _) ?_
  generalize ef4 : updN f3 ((234) + ((7) * (b)) + 4) (zbt bm b1 0 (4 * b + 1)) = f4
  generalize e10 : xup F8 (m + 1) (.inr (0, 4730, fun b9 => .int (nI (f4 b9)))) = F10
  have o0 : F10 (m) = some (.inl (10, [.int (nI (th)), .ref (m + 1), .int (nI (ch)), .int (nI (sv)), .int rs, .ref (m + 2), .ref (m + 3), .ref (m + 4), .ref (m + 5), .ref (m + 6), .int (nI (bm)), .ref (m + 7), .int (nI (dm)), .ref (m + 8), .ref (m + 9), .int (nI (lz)), .ref (m + 10), .int (nI (ty)), .int (nI (he)), .int er, .int ea, .int fa, .ref (m + 11), .int (nI (cn))])) := by rw [← e10]; exact (xup_ne (by omega)).trans o0
  have ga : F10 (m + 1) = some (.inr (0, 4730, fun b9 => .int (nI (f4 b9)))) := by rw [← e10]; exact xup_eq
  have h6 : F10 (m + 6) = some (.inr (0, 112, fun b9 => .int (nI (b1 b9)))) := by rw [← e10]; exact (xup_ne (by omega)).trans h6
  have hag : ∀ a9 : Nat, (a9 < m + 1 ∨ m + 1 + 1 ≤ a9) → F10 a9 = F a9 := fun a9 q0 => by rw [← e10]; exact (xup_ne (by omega)).trans (hag a9 q0)
  refine x_aload_n hC d_MessageCoderModel_frames_113 rfl rfl ?_
  refine x_getf hC kf_MessageCoderModel_9 o0 rfl d_MessageCoderModel_frames_114 ?_
  refine x_iload_n hC d_MessageCoderModel_frames_117 rfl rfl ?_
  refine x_iconst hC d_MessageCoderModel_frames_118 (v := nI 5) (by decide) ?_
  refine x_iadd hC d_MessageCoderModel_frames_119 (v := (nI ((234) + ((7) * (b)) + 5))) (x_addN (by omega)) ?_
  refine x_iload hC d_MessageCoderModel_frames_120 rfl ?_
  refine x_iast hC ga (j := (234) + ((7) * (b)) + 5) ⟨rfl, by omega, by omega⟩ d_MessageCoderModel_frames_122 (g1 := fun b9 => nI (updN f4 ((234) + ((7) * (b)) + 5) (zbt bm b1 0 (4 * b + 2)) b9)) (x_updN _ _ _) ?_
  generalize ef5 : updN f4 ((234) + ((7) * (b)) + 5) (zbt bm b1 0 (4 * b + 2)) = f5
  generalize e12 : xup F10 (m + 1) (.inr (0, 4730, fun b9 => .int (nI (f5 b9)))) = F12
  have o0 : F12 (m) = some (.inl (10, [.int (nI (th)), .ref (m + 1), .int (nI (ch)), .int (nI (sv)), .int rs, .ref (m + 2), .ref (m + 3), .ref (m + 4), .ref (m + 5), .ref (m + 6), .int (nI (bm)), .ref (m + 7), .int (nI (dm)), .ref (m + 8), .ref (m + 9), .int (nI (lz)), .ref (m + 10), .int (nI (ty)), .int (nI (he)), .int er, .int ea, .int fa, .ref (m + 11), .int (nI (cn))])) := by rw [← e12]; exact (xup_ne (by omega)).trans o0
  have ga : F12 (m + 1) = some (.inr (0, 4730, fun b9 => .int (nI (f5 b9)))) := by rw [← e12]; exact xup_eq
  have h6 : F12 (m + 6) = some (.inr (0, 112, fun b9 => .int (nI (b1 b9)))) := by rw [← e12]; exact (xup_ne (by omega)).trans h6
  have hag : ∀ a9 : Nat, (a9 < m + 1 ∨ m + 1 + 1 ≤ a9) → F12 a9 = F a9 := fun a9 q0 => by rw [← e12]; exact (xup_ne (by omega)).trans (hag a9 q0)
  refine x_aload_n hC d_MessageCoderModel_frames_123 rfl rfl ?_
  refine x_getf hC kf_MessageCoderModel_9 o0 rfl d_MessageCoderModel_frames_124 ?_
  refine x_iload_n hC d_MessageCoderModel_frames_127 rfl rfl ?_
  refine x_bipush hC d_MessageCoderModel_frames_128 (v := nI 6) (by decide) ?_
  refine x_iadd hC d_MessageCoderModel_frames_130 (v := (nI ((234) + ((7) * (b)) + 6))) (x_addN (by omega)) ?_
  refine x_iload hC d_MessageCoderModel_frames_131 rfl ?_
  refine x_iast hC ga (j := (234) + ((7) * (b)) + 6) ⟨rfl, by omega, by omega⟩ d_MessageCoderModel_frames_133 (g1 := fun b9 => nI (updN f5 ((234) + ((7) * (b)) + 6) (zbt bm b1 0 (4 * b + 3)) b9)) (x_updN _ _ _) ?_
  generalize ef6 : updN f5 ((234) + ((7) * (b)) + 6) (zbt bm b1 0 (4 * b + 3)) = f6
  generalize e14 : xup F12 (m + 1) (.inr (0, 4730, fun b9 => .int (nI (f6 b9)))) = F14
  have o0 : F14 (m) = some (.inl (10, [.int (nI (th)), .ref (m + 1), .int (nI (ch)), .int (nI (sv)), .int rs, .ref (m + 2), .ref (m + 3), .ref (m + 4), .ref (m + 5), .ref (m + 6), .int (nI (bm)), .ref (m + 7), .int (nI (dm)), .ref (m + 8), .ref (m + 9), .int (nI (lz)), .ref (m + 10), .int (nI (ty)), .int (nI (he)), .int er, .int ea, .int fa, .ref (m + 11), .int (nI (cn))])) := by rw [← e14]; exact (xup_ne (by omega)).trans o0
  have ga : F14 (m + 1) = some (.inr (0, 4730, fun b9 => .int (nI (f6 b9)))) := by rw [← e14]; exact xup_eq
  have h6 : F14 (m + 6) = some (.inr (0, 112, fun b9 => .int (nI (b1 b9)))) := by rw [← e14]; exact (xup_ne (by omega)).trans h6
  have hag : ∀ a9 : Nat, (a9 < m + 1 ∨ m + 1 + 1 ≤ a9) → F14 a9 = F a9 := fun a9 q0 => by rw [← e14]; exact (xup_ne (by omega)).trans (hag a9 q0)
  refine hret _ _ _ _ _ _ d_MessageCoderModel_frames_134 (by decide) (by decide) ?_
  have hz0 := zbt_le hb1 0 (4 * b)
  have hz1 := zbt_le hb1 0 (4 * b + 1)
  have hz2 := zbt_le hb1 0 (4 * b + 2)
  have hz3 := zbt_le hb1 0 (4 * b + 3)
  have k0 : f6 (234 + 7 * b + 0) = zbt bm b1 0 (4 * b) ^^^ zbt bm b1 0 (4 * b + 1) ^^^ zbt bm b1 0 (4 * b + 3) := by rw [← ef6, updN_ne (by omega), ← ef5, updN_ne (by omega), ← ef4, updN_ne (by omega), ← ef3, updN_ne (by omega), ← ef2, updN_ne (by omega), ← ef1, updN_ne (by omega), ← ef0]; exact updN_at (by omega)
  have k1 : f6 (234 + 7 * b + 1) = zbt bm b1 0 (4 * b) ^^^ zbt bm b1 0 (4 * b + 2) ^^^ zbt bm b1 0 (4 * b + 3) := by rw [← ef6, updN_ne (by omega), ← ef5, updN_ne (by omega), ← ef4, updN_ne (by omega), ← ef3, updN_ne (by omega), ← ef2, updN_ne (by omega), ← ef1]; exact updN_at (by omega)
  have k2 : f6 (234 + 7 * b + 2) = zbt bm b1 0 (4 * b) := by rw [← ef6, updN_ne (by omega), ← ef5, updN_ne (by omega), ← ef4, updN_ne (by omega), ← ef3, updN_ne (by omega), ← ef2]; exact updN_at (by omega)
  have k3 : f6 (234 + 7 * b + 3) = zbt bm b1 0 (4 * b + 1) ^^^ zbt bm b1 0 (4 * b + 2) ^^^ zbt bm b1 0 (4 * b + 3) := by rw [← ef6, updN_ne (by omega), ← ef5, updN_ne (by omega), ← ef4, updN_ne (by omega), ← ef3]; exact updN_at (by omega)
  have k4 : f6 (234 + 7 * b + 4) = zbt bm b1 0 (4 * b + 1) := by rw [← ef6, updN_ne (by omega), ← ef5, updN_ne (by omega), ← ef4]; exact updN_at (by omega)
  have k5 : f6 (234 + 7 * b + 5) = zbt bm b1 0 (4 * b + 2) := by rw [← ef6, updN_ne (by omega), ← ef5]; exact updN_at (by omega)
  have k6 : f6 (234 + 7 * b + 6) = zbt bm b1 0 (4 * b + 3) := by rw [← ef6]; exact updN_at (by omega)
  have hk : ∀ u, u < 7 → f6 (234 + 7 * b + u) = [zbt bm b1 0 (4 * b) ^^^ zbt bm b1 0 (4 * b + 1) ^^^ zbt bm b1 0 (4 * b + 3), zbt bm b1 0 (4 * b) ^^^ zbt bm b1 0 (4 * b + 2) ^^^ zbt bm b1 0 (4 * b + 3), zbt bm b1 0 (4 * b), zbt bm b1 0 (4 * b + 1) ^^^ zbt bm b1 0 (4 * b + 2) ^^^ zbt bm b1 0 (4 * b + 3), zbt bm b1 0 (4 * b + 1), zbt bm b1 0 (4 * b + 2), zbt bm b1 0 (4 * b + 3)].getD u 0 := fun u hu => by
    rcases (show u = 0 ∨ u = 1 ∨ u = 2 ∨ u = 3 ∨ u = 4 ∨ u = 5 ∨ u = 6 by omega) with e | e | e | e | e | e | e
    · rw [e]; exact k0
    · rw [e]; exact k1
    · rw [e]; exact k2
    · rw [e]; exact k3
    · rw [e]; exact k4
    · rw [e]; exact k5
    · rw [e]; exact k6
  exact ⟨f6, rfl, rfl, o0, ga, h6, fun u hu => (hk u hu).trans (ham_7 _ (by omega) _ (by omega) _ (by omega) _ (by omega) u hu), fun q hq => by rw [← ef6, updN_ne (by omega), ← ef5, updN_ne (by omega), ← ef4, updN_ne (by omega), ← ef3, updN_ne (by omega), ← ef2, updN_ne (by omega), ← ef1, updN_ne (by omega), ← ef0, updN_ne (by omega)], hag⟩

