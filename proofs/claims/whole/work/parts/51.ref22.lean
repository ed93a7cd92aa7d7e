/-! the reference: what its commands do -/
theorem cod_i {v : Int32} (h : ¬ v < 0 ∨ v = -1 ∨ v = -2 ∨ v = -3 ∨ v = -4) : codN v = 0 ↔ ¬ v < 0 := by
  rcases h with h | h | h | h | h
  · exact ⟨fun _ => h, fun _ => codN_pos h⟩
  all_goals (rw [h]; decide)
theorem cl_row {g : Nat → Nat} {A : aS} (hr : rRow g A) (hA : aInv A) : rRow (clG g) (aCl A).2 := by
  obtain ⟨⟨q0, q1, q2, q3, q4, q5, q6, q7, q9⟩, qw, qd, qm, qf, qx, qb⟩ := id hr
  obtain ⟨⟨u1, u2, u3, u4, u5⟩, uw, ud, um, uo, ut, ux, ub, un9⟩ := id hA
  have hf : ∀ q, q ≠ 0 ∧ (q < 18 ∨ 34 ≤ q) → clG g q = g q := fun q hq => clG_o hq
  have kr : rRow (clG g) (aCl A).2 := ⟨⟨clG_0 _, (hf 1 (by omega)).trans q1, (hf 2 (by omega)).trans q2, (hf 3 (by omega)).trans q3, (hf 4 (by omega)).trans q4, (hf 5 (by omega)).trans q5, (hf 6 (by omega)).trans q6, (hf 7 (by omega)).trans q7, (hf 9 (by omega)).trans q9⟩, fun j (hj : j < 8) => (hf _ (by omega)).trans (qw j hj), fun j hj => absurd hj (Nat.not_lt_zero j), fun i (hi : i < A.2.2.1.1) => rMsg_ext (um i hi).2.2.1 (fun q hq => hf _ (by omega)) (qm i hi), fun (hk : 0 < A.2.2.2.1.1) => ⟨(hf 8 (by omega)).trans (qf hk).1, fun j hj => ⟨(hf _ (by omega)).trans ((qf hk).2.1 j hj).1, (hf _ (by omega)).trans ((qf hk).2.1 j hj).2⟩, fun j (hj : j < A.2.2.2.1.2.2.1) => by rw [hf _ (by omega)]; exact (qf hk).2.2 j hj⟩, fun j (hj : j < A.2.2.2.2.1.1) => by rw [hf _ (by omega)]; exact qx j hj, fun b (hb : b < A.2.2.2.1.1) p hp => (hf _ (by omega)).trans (qb b hb p hp)⟩
  exact kr
theorem ltr_J : ∀ J, J < 10 → ∀ k, k < 10 → ltr J = ltr k → J = k := by decide +kernel
theorem ltr_lt : ∀ J, J < 10 → ltr J < 128 := by decide +kernel
/-- what the steps p .. p1 - 1 leave: all gone, or one failed -/
def doR (K : kS) (A0 : aS) (p p1 : Nat) (g : Nat → Nat) (y : Nat) : Prop := (y = 0 ∧ ∃ B, prgS K A0 p1 = (true, p1, B) ∧ rRow g B ∧ aInv B) ∨ (y ≠ 0 ∧ ∃ j, ∃ B : aS, p ≤ j ∧ j < p1 ∧ prgS K A0 K.1 = (false, j, B))
theorem doR_e {K : kS} {A0 : aS} {p p1 p2 : Nat} {g : Nat → Nat} {y : Nat} (h : doR K A0 p p1 g y) (hy : y ≠ 0) (hp : p1 ≤ p2) : doR K A0 p p2 g y := by
  rcases h with h | ⟨h1, j, B, h2, h3, h4⟩
  · exact absurd h.1 hy
  · exact Or.inr ⟨h1, j, B, h2, by omega, h4⟩
theorem doR_w {K : kS} {A0 : aS} {p p1 p2 : Nat} {g : Nat → Nat} {y : Nat} (h : doR K A0 p1 p2 g y) (hp : p ≤ p1) : doR K A0 p p2 g y := by
  rcases h with h | ⟨h1, j, B, h2, h3, h4⟩
  · exact Or.inl h
  · exact Or.inr ⟨h1, j, B, by omega, h3, h4⟩
theorem doR_0 {K : kS} {A0 : aS} {p p1 : Nat} {g : Nat → Nat} {y : Nat} (h : doR K A0 p p1 g y) (hy : y = 0) : ∃ B, prgS K A0 p1 = (true, p1, B) ∧ rRow g B ∧ aInv B := by
  rcases h with h | h
  · exact h.2
  · exact absurd hy h.1
theorem do_one {K : kS} {A0 : aS} {q : Nat} {B : aS} {g : Nat → Nat} {r : Int32 × aS} (h : prgS K A0 q = (true, q, B)) (hq : q < K.1) (hr : aDo B (K.2.1 q) (K.2.2.1 q) (K.2.2.2.1 q) = r) (kr : rRow g r.2) (hA : aInv r.2) (hc : ¬ r.1 < 0 ∨ r.1 = -1 ∨ r.1 = -2 ∨ r.1 = -3 ∨ r.1 = -4) : doR K A0 q (q + 1) g (codN r.1) := by
  have hi := cod_i hc
  by_cases c : r.1 < 0
  · exact Or.inr ⟨fun e => hi.mp e c, q, B, Nat.le_refl _, Nat.lt_succ_self _, prgS_fail h hq (by rw [hr]; exact c)⟩
  · refine Or.inl ⟨hi.mpr c, r.2, ?_, kr, hA⟩
    have h1 := prgS_next h (by rw [hr]; exact c)
    rw [hr] at h1
    exact h1
theorem prgS_nx (K : kS) (A : aS) : ∀ k, (prgS K A k).2.2.2.2.1.2.1 ≤ A.2.2.1.2.1 + k
  | 0 => Nat.le_refl _
  | k + 1 => by
    have ih := prgS_nx K A k
    unfold prgS
    split
    · split
      · exact Nat.le_succ_of_le ih
      · exact Nat.le_trans (aDo_nx _ _ _ _) (Nat.succ_le_succ ih)
    · exact Nat.le_succ_of_le ih
theorem rc_Wt {A : aS} {c : Nat} {x : Int32} (hA : aInv A) : ¬ (aWt A c x).1 < 0 ∨ (aWt A c x).1 = -1 ∨ (aWt A c x).1 = -2 ∨ (aWt A c x).1 = -3 ∨ (aWt A c x).1 = -4 := by
  rcases res_Wt A c x hA with e | e
  · exact Or.inl e
  · exact Or.inr (Or.inl (by rw [e]))
theorem rc_Dr {A : aS} {c : Nat} : ¬ (aDr A c).1 < 0 ∨ (aDr A c).1 = -1 ∨ (aDr A c).1 = -2 ∨ (aDr A c).1 = -3 ∨ (aDr A c).1 = -4 := by
  rcases res_Dr A c with e | e | e
  · exact Or.inl e
  · exact Or.inr (Or.inl (by rw [e]))
  · exact Or.inr (Or.inr (Or.inl (by rw [e])))
theorem rc_Po {A : aS} {v : Int32} (hA : aInv A) : ¬ (aPo A v).1 < 0 ∨ (aPo A v).1 = -1 ∨ (aPo A v).1 = -2 ∨ (aPo A v).1 = -3 ∨ (aPo A v).1 = -4 := by
  rcases res_Po A v hA with e | e | e
  · exact Or.inl e
  · exact Or.inr (Or.inl (by rw [e]))
  · exact Or.inr (Or.inr (Or.inl (by rw [e])))
theorem rc_Di {A : aS} {v : Int32} (hA : aInv A) : ¬ (aDi A v).1 < 0 ∨ (aDi A v).1 = -1 ∨ (aDi A v).1 = -2 ∨ (aDi A v).1 = -3 ∨ (aDi A v).1 = -4 := by
  rcases res_Di A v hA with e | e
  · exact Or.inl e
  · exact Or.inr (Or.inr (Or.inr (Or.inl (by rw [e]))))
theorem rc_Hu {A : aS} {v x : Int32} (hA : aInv A) : ¬ (aHu A v x).1 < 0 ∨ (aHu A v x).1 = -1 ∨ (aHu A v x).1 = -2 ∨ (aHu A v x).1 = -3 ∨ (aHu A v x).1 = -4 := by
  rcases res_Hu A v x hA with e | e | e
  · exact Or.inl e
  · exact Or.inr (Or.inl (by rw [e]))
  · exact Or.inr (Or.inr (Or.inr (Or.inl (by rw [e]))))
theorem rc_Le {A : aS} {v : Int32} (hA : aInv A) : ¬ (aLe A v).1 < 0 ∨ (aLe A v).1 = -1 ∨ (aLe A v).1 = -2 ∨ (aLe A v).1 = -3 ∨ (aLe A v).1 = -4 := by
  rcases res_Le A v hA with e | e
  · exact Or.inl e
  · exact Or.inr (Or.inr (Or.inr (Or.inl (by rw [e]))))
theorem rc_Se {A : aS} (hA : aInv A) : ¬ (aSe A).1 < 0 ∨ (aSe A).1 = -1 ∨ (aSe A).1 = -2 ∨ (aSe A).1 = -3 ∨ (aSe A).1 = -4 := by
  rcases res_Se A hA with e | e
  · exact Or.inl e
  · exact Or.inr (Or.inr (Or.inr (Or.inl (by rw [e]))))
theorem rc_Fl {A : aS} {v : Int32} (hA : aInv A) : ¬ (aFl A v).1 < 0 ∨ (aFl A v).1 = -1 ∨ (aFl A v).1 = -2 ∨ (aFl A v).1 = -3 ∨ (aFl A v).1 = -4 := by
  rcases res_Fl A v hA with e | e
  · exact Or.inl e
  · exact Or.inr (Or.inr (Or.inr (Or.inr ((by rw [e])))))
theorem rc_Re {A : aS} (hA : aInv A) : ¬ (aRe A).1 < 0 ∨ (aRe A).1 = -1 ∨ (aRe A).1 = -2 ∨ (aRe A).1 = -3 ∨ (aRe A).1 = -4 := by
  rcases res_Re A hA with e | e
  · exact Or.inl e
  · exact Or.inr (Or.inr (Or.inr (Or.inl (by rw [e]))))

theorem d_MessageCoderModel_draftsAll_0 : decode prog_14_method_118_code 0 = .ok (.iconst 0, 1) := by decide +kernel
theorem d_MessageCoderModel_draftsAll_1 : decode prog_14_method_118_code 1 = .ok (.istore_n 3, 1) := by decide +kernel
theorem d_MessageCoderModel_draftsAll_2 : decode prog_14_method_118_code 2 = .ok (.iconst 0, 1) := by decide +kernel
theorem d_MessageCoderModel_draftsAll_3 : decode prog_14_method_118_code 3 = .ok (.istore 4, 2) := by decide +kernel
theorem d_MessageCoderModel_draftsAll_5 : decode prog_14_method_118_code 5 = .ok (.iload 4, 2) := by decide +kernel
theorem d_MessageCoderModel_draftsAll_7 : decode prog_14_method_118_code 7 = .ok (.iload_n 2, 1) := by decide +kernel
theorem d_MessageCoderModel_draftsAll_8 : decode prog_14_method_118_code 8 = .ok (.if_icmp .ge 27, 3) := by decide +kernel
theorem d_MessageCoderModel_draftsAll_11 : decode prog_14_method_118_code 11 = .ok (.iload_n 3, 1) := by decide +kernel
theorem d_MessageCoderModel_draftsAll_12 : decode prog_14_method_118_code 12 = .ok (.ifCond .ne 23, 3) := by decide +kernel
theorem d_MessageCoderModel_draftsAll_15 : decode prog_14_method_118_code 15 = .ok (.aload_n 0, 1) := by decide +kernel
theorem d_MessageCoderModel_draftsAll_16 : decode prog_14_method_118_code 16 = .ok (.aload_n 0, 1) := by decide +kernel
theorem d_MessageCoderModel_draftsAll_17 : decode prog_14_method_118_code 17 = .ok (.getfield 38, 3) := by decide +kernel
theorem d_MessageCoderModel_draftsAll_20 : decode prog_14_method_118_code 20 = .ok (.iload_n 1, 1) := by decide +kernel
theorem d_MessageCoderModel_draftsAll_21 : decode prog_14_method_118_code 21 = .ok (.iload 4, 2) := by decide +kernel
theorem d_MessageCoderModel_draftsAll_23 : decode prog_14_method_118_code 23 = .ok (.iadd, 1) := by decide +kernel
theorem d_MessageCoderModel_draftsAll_24 : decode prog_14_method_118_code 24 = .ok (.caload, 1) := by decide +kernel
theorem d_MessageCoderModel_draftsAll_25 : decode prog_14_method_118_code 25 = .ok (.invokevirtual 132, 3) := by decide +kernel
theorem d_MessageCoderModel_draftsAll_28 : decode prog_14_method_118_code 28 = .ok (.istore_n 3, 1) := by decide +kernel
theorem d_MessageCoderModel_draftsAll_29 : decode prog_14_method_118_code 29 = .ok (.iinc 4 1, 3) := by decide +kernel
theorem d_MessageCoderModel_draftsAll_32 : decode prog_14_method_118_code 32 = .ok (.goto (-27), 3) := by decide +kernel
theorem d_MessageCoderModel_draftsAll_35 : decode prog_14_method_118_code 35 = .ok (.iload_n 3, 1) := by decide +kernel
theorem d_MessageCoderModel_draftsAll_36 : decode prog_14_method_118_code 36 = .ok (.ireturn, 1) := by decide +kernel
set_option maxHeartbeats 4000000 in
set_option maxRecDepth 20000 in
theorem c_MessageCoderModel_draftsAll {P : xP} {F : xF} {z : Nat} {m : Nat} {th : Nat} {ch : Nat} {sv : Nat} {rs : Int32} {bm : Nat} {dm : Nat} {lz : Nat} {ty : Nat} {he : Nat} {er : Int32} {ea : Int32} {fa : Int32} {cn : Nat} {g : Nat → Nat} {A : aS} {K : kS} {A0 : aS} {p : Nat} {ip : Nat → Nat} {f : Nat} {mm : Nat} (o0 : F (m) = some (.inl (10, [.int (nI (th)), .ref (m + 1), .int (nI (ch)), .int (nI (sv)), .int rs, .ref (m + 2), .ref (m + 3), .ref (m + 4), .ref (m + 5), .ref (m + 6), .int (nI (bm)), .ref (m + 7), .int (nI (dm)), .ref (m + 8), .ref (m + 9), .int (nI (lz)), .ref (m + 10), .int (nI (ty)), .int (nI (he)), .int er, .int ea, .int fa, .ref (m + 11), .int (nI (cn))]))) (ga : F (m + 1) = some (.inr (0, 4730, fun b9 => .int (nI (g b9))))) (hi : F (m + 10) = some (.inr (1, 60, fun b9 => .int (nI (ip b9))))) (hr : rRow g A) (hA : aInv A) (hB : prgS K A0 p = (true, p, A)) (hpK : p + mm ≤ K.1) (hf60 : f + mm ≤ 60) (hst : ∀ t, t < mm → K.2.1 (p + t) = 1 ∧ K.2.2.1 (p + t) = ip (f + t)) (hip : ∀ t, t < mm → ip (f + t) < 65536) : xM P xy_MessageCoderModel_draftsAll [.ref m, .int (nI (f)), .int (nI (mm))] F (z) 0 0 (fun r9 F9 z9 => ∃ g1 : Nat → Nat, ∃ rs1 : Int32, ∃ y1 : Nat, r9 = some (.int (nI (y1))) ∧ z9 = z ∧ F9 (m) = some (.inl (10, [.int (nI (th)), .ref (m + 1), .int (nI (ch)), .int (nI (sv)), .int rs1, .ref (m + 2), .ref (m + 3), .ref (m + 4), .ref (m + 5), .ref (m + 6), .int (nI (bm)), .ref (m + 7), .int (nI (dm)), .ref (m + 8), .ref (m + 9), .int (nI (lz)), .ref (m + 10), .int (nI (ty)), .int (nI (he)), .int er, .int ea, .int fa, .ref (m + 11), .int (nI (cn))])) ∧ F9 (m + 1) = some (.inr (0, 4730, fun b9 => .int (nI (g1 b9)))) ∧ F9 (m + 10) = some (.inr (1, 60, fun b9 => .int (nI (ip b9)))) ∧ (doR K A0 p (p + mm) g1 y1) ∧ (∀ q, 430 ≤ q → g1 q = g q) ∧ (y1 ≤ 4) ∧ (∀ a9 : Nat, (a9 < m ∨ m + 2 ≤ a9) → F9 a9 = F a9)) := by
  refine xM_i .int rfl (Nat.le_of_ble_eq_true rfl) (L0 := [some (.ref m), some (.int (nI (f))), some (.int (nI (mm))), none, none]) rfl rfl fun Θ hC hret => ?_
  have hag : ∀ a9 : Nat, (a9 < m ∨ m + 2 ≤ a9) → F a9 = F a9 := fun a9 _ => rfl
  refine x_iconst hC d_MessageCoderModel_draftsAll_0 (v := nI 0) (by decide) ?_
  refine x_istore_n hC d_MessageCoderModel_draftsAll_1 rfl (Nat.le_of_ble_eq_true rfl) (L1 := [some (.ref m), some (.int (nI (f))), some (.int (nI (mm))), some (.int (nI 0)), none]) rfl ?_
  refine x_iconst hC d_MessageCoderModel_draftsAll_2 (v := nI 0) (by decide) ?_
  refine x_istore hC d_MessageCoderModel_draftsAll_3 (Nat.le_of_ble_eq_true rfl) (L1 := [some (.ref m), some (.int (nI (f))), some (.int (nI (mm))), some (.int (nI 0)), some (.int (nI 0))]) rfl ?_
  have loop_5 : ∀ (m9 : Nat) (Fh5 : xF) (k : Nat) (y : Nat) (g2 : Nat → Nat) (rs2 : Int32), (Fh5 (m) = some (.inl (10, [.int (nI (th)), .ref (m + 1), .int (nI (ch)), .int (nI (sv)), .int rs2, .ref (m + 2), .ref (m + 3), .ref (m + 4), .ref (m + 5), .ref (m + 6), .int (nI (bm)), .ref (m + 7), .int (nI (dm)), .ref (m + 8), .ref (m + 9), .int (nI (lz)), .ref (m + 10), .int (nI (ty)), .int (nI (he)), .int er, .int ea, .int fa, .ref (m + 11), .int (nI (cn))]))) → (Fh5 (m + 1) = some (.inr (0, 4730, fun b9 => .int (nI (g2 b9))))) → (Fh5 (m + 10) = some (.inr (1, 60, fun b9 => .int (nI (ip b9))))) → (∀ a9 : Nat, (a9 < m ∨ m + 2 ≤ a9) → Fh5 a9 = F a9) → (k ≤ mm) → (doR K A0 p (p + k) g2 y) → (∀ q, 430 ≤ q → g2 q = g q) → (y ≤ 4) → (mm - k < m9) → xX P Θ 5 [some (.ref m), some (.int (nI (f))), some (.int (nI (mm))), some (.int (nI (y))), some (.int (nI (k)))] [] Fh5 (z) 0 0 := by
    intro m9
    induction m9 with
    | zero => intros; omega
    | succ m9 ih_5 =>
      intro Fh5 k y g2 rs2 o0 ga hi hag hk hd ho hy hm_5
      refine x_iload hC d_MessageCoderModel_draftsAll_5 rfl ?_
      refine x_iload_n hC d_MessageCoderModel_draftsAll_7 rfl rfl ?_
      refine x_icmpN_ge hC d_MessageCoderModel_draftsAll_8 (tgt := 35) (by decide) (by omega) (by omega) (fun c_8 => ?_) (fun c_8 => ?_)
      · skip
        refine x_iload_n hC d_MessageCoderModel_draftsAll_35 rfl rfl ?_
        exact hret _ _ _ _ _ _ _ d_MessageCoderModel_draftsAll_36 (by decide) (by decide) rfl (⟨g2, rs2, y, rfl, rfl, o0, ga, hi, by rw [show mm = k by omega]; exact hd, ho, hy, hag⟩)
      · skip
        refine x_iload_n hC d_MessageCoderModel_draftsAll_11 rfl rfl ?_
        refine x_ifN_ne hC d_MessageCoderModel_draftsAll_12 (tgt := 35) (by decide) (by omega) (fun c_12 => ?_) (fun c_12 => ?_)
        · skip
          refine x_iload_n hC d_MessageCoderModel_draftsAll_35 rfl rfl ?_
          exact hret _ _ _ _ _ _ _ d_MessageCoderModel_draftsAll_36 (by decide) (by decide) rfl (⟨g2, rs2, y, rfl, rfl, o0, ga, hi, doR_e hd (by omega) (by omega), ho, hy, hag⟩)
        · skip
          have hy0 : y = 0 := by omega
          obtain ⟨B, hB1, hB2, hB3⟩ := doR_0 hd hy0
          have hst9 := hst k (by omega)
          have hip9 := hip k (by omega)
          refine x_aload_n hC d_MessageCoderModel_draftsAll_15 rfl rfl ?_
          refine x_aload_n hC d_MessageCoderModel_draftsAll_16 rfl rfl ?_
          refine x_getf hC kf_MessageCoderModel_38 o0 rfl d_MessageCoderModel_draftsAll_17 ?_
          refine x_iload_n hC d_MessageCoderModel_draftsAll_20 rfl rfl ?_
          refine x_iload hC d_MessageCoderModel_draftsAll_21 rfl ?_
          refine x_iadd hC d_MessageCoderModel_draftsAll_23 (v := (nI (f + k))) (x_addN (by omega)) ?_
          refine x_cald hC hi (j := f + k) ⟨rfl, by omega, by omega⟩ (x := nI (ip (f + k))) rfl d_MessageCoderModel_draftsAll_24 ?_
          refine x_callV hC kv_MessageCoderModel_132 (c_MessageCoderModel_drafts (o0 := o0) (ga := ga) (hr := hB2) (hA := hB3) (hc := hip9) (A := B)) o0 rfl rfl (by decide) rfl rfl rfl (Nat.le_of_ble_eq_true rfl) (by decide) d_MessageCoderModel_draftsAll_25 (fun r9 F9 z9 hp9 => ?_)
          obtain ⟨g3, rs3, rfl, h9c, j0, j1, pr_25, po_25, pv_25, hag9⟩ := hp9
          rw [h9c]
          clear h9c z9
          generalize F9 = F1 at *
          have hi : F1 (m + 10) = some (.inr (1, 60, fun b9 => .int (nI (ip b9)))) := (hag9 _ (by omega)).trans hi
          have o0 : F1 (m) = some (.inl (10, [.int (nI (th)), .ref (m + 1), .int (nI (ch)), .int (nI (sv)), .int rs3, .ref (m + 2), .ref (m + 3), .ref (m + 4), .ref (m + 5), .ref (m + 6), .int (nI (bm)), .ref (m + 7), .int (nI (dm)), .ref (m + 8), .ref (m + 9), .int (nI (lz)), .ref (m + 10), .int (nI (ty)), .int (nI (he)), .int er, .int ea, .int fa, .ref (m + 11), .int (nI (cn))])) := j0
          have ga : F1 (m + 1) = some (.inr (0, 4730, fun b9 => .int (nI (g3 b9)))) := j1
          have hag : ∀ a9 : Nat, (a9 < m ∨ m + 2 ≤ a9) → F1 a9 = F a9 := fun a9 q0 => (hag9 a9 (by omega)).trans (hag a9 q0)
          have hg_25 := hag9
          clear hag9
          have hd9 : doR K A0 p (p + (k + 1)) g3 (codN (aDr B (ip (f + k))).1) := doR_w (do_one (q := p + k) hB1 (by omega) (by rw [hst9.1, hst9.2]; rfl) pr_25 (inv_Dr hB3 _) rc_Dr) (by omega)
          have ho9 : ∀ q, 430 ≤ q → g3 q = g q := fun q hq => (po_25 q hq).trans (ho q hq)
          have hy9 : codN (aDr B (ip (f + k))).1 ≤ 4 := codN_4 _
          refine x_istore_n hC d_MessageCoderModel_draftsAll_28 rfl (Nat.le_of_ble_eq_true rfl) (L1 := [some (.ref m), some (.int (nI (f))), some (.int (nI (mm))), some (.int (nI (codN (aDr B (ip (f + k))).1))), some (.int (nI (k)))]) rfl ?_
          refine x_iinc hC d_MessageCoderModel_draftsAll_29 rfl (v := (nI (k + 1))) (x_incN 1) (Nat.le_of_ble_eq_true rfl) (L1 := [some (.ref m), some (.int (nI (f))), some (.int (nI (mm))), some (.int (nI (codN (aDr B (ip (f + k))).1))), some (.int (nI (k + 1)))]) rfl ?_
          refine x_goto hC d_MessageCoderModel_draftsAll_32 (tgt := 5) (by decide) ?_
          exact ih_5 F1 (k + 1) (codN (aDr B (ip (f + k))).1) (g3) (rs3) o0 ga hi hag (by omega) (hd9) (ho9) (hy9) (by omega)
  exact loop_5 (mm - 0 + 1) F (0) (0) (g) (rs) o0 ga hi hag (by omega) (Or.inl ⟨rfl, A, hB, hr, hA⟩) (fun _ _ => rfl) (by omega) (by omega)

theorem ltr_all : ∀ J, J < 10 → ltr J = 119 ∨ ltr J = 100 ∨ ltr J = 99 ∨ ltr J = 112 ∨ ltr J = 120 ∨ ltr J = 104 ∨ ltr J = 108 ∨ ltr J = 115 ∨ ltr J = 102 ∨ ltr J = 114 := by decide +kernel

theorem d_MessageCoderModel_does_0 : decode prog_14_method_119_code 0 = .ok (.aload_n 0, 1) := by decide +kernel
theorem d_MessageCoderModel_does_1 : decode prog_14_method_119_code 1 = .ok (.getfield 48, 3) := by decide +kernel
theorem d_MessageCoderModel_does_4 : decode prog_14_method_119_code 4 = .ok (.iload_n 1, 1) := by decide +kernel
theorem d_MessageCoderModel_does_5 : decode prog_14_method_119_code 5 = .ok (.iconst 1, 1) := by decide +kernel
theorem d_MessageCoderModel_does_6 : decode prog_14_method_119_code 6 = .ok (.iadd, 1) := by decide +kernel
theorem d_MessageCoderModel_does_7 : decode prog_14_method_119_code 7 = .ok (.iaload, 1) := by decide +kernel
theorem d_MessageCoderModel_does_8 : decode prog_14_method_119_code 8 = .ok (.istore_n 2, 1) := by decide +kernel
theorem d_MessageCoderModel_does_9 : decode prog_14_method_119_code 9 = .ok (.aload_n 0, 1) := by decide +kernel
theorem d_MessageCoderModel_does_10 : decode prog_14_method_119_code 10 = .ok (.getfield 48, 3) := by decide +kernel
theorem d_MessageCoderModel_does_13 : decode prog_14_method_119_code 13 = .ok (.iload_n 1, 1) := by decide +kernel
theorem d_MessageCoderModel_does_14 : decode prog_14_method_119_code 14 = .ok (.iconst 2, 1) := by decide +kernel
theorem d_MessageCoderModel_does_15 : decode prog_14_method_119_code 15 = .ok (.iadd, 1) := by decide +kernel
theorem d_MessageCoderModel_does_16 : decode prog_14_method_119_code 16 = .ok (.iaload, 1) := by decide +kernel
theorem d_MessageCoderModel_does_17 : decode prog_14_method_119_code 17 = .ok (.istore_n 3, 1) := by decide +kernel
theorem d_MessageCoderModel_does_18 : decode prog_14_method_119_code 18 = .ok (.aload_n 0, 1) := by decide +kernel
theorem d_MessageCoderModel_does_19 : decode prog_14_method_119_code 19 = .ok (.getfield 48, 3) := by decide +kernel
theorem d_MessageCoderModel_does_22 : decode prog_14_method_119_code 22 = .ok (.iload_n 1, 1) := by decide +kernel
theorem d_MessageCoderModel_does_23 : decode prog_14_method_119_code 23 = .ok (.iaload, 1) := by decide +kernel
theorem d_MessageCoderModel_does_24 : decode prog_14_method_119_code 24 = .ok (.tableswitch 159 99 120 #[118, 111, 159, 153, 159, 135, 159, 159, 159, 142, 159, 159, 159, 123, 159, 159, 148, 159, 159, 159, 104, 129], 104) := by decide +kernel
theorem d_MessageCoderModel_does_128 : decode prog_14_method_119_code 128 = .ok (.aload_n 0, 1) := by decide +kernel
theorem d_MessageCoderModel_does_129 : decode prog_14_method_119_code 129 = .ok (.iload_n 2, 1) := by decide +kernel
theorem d_MessageCoderModel_does_130 : decode prog_14_method_119_code 130 = .ok (.iload_n 3, 1) := by decide +kernel
theorem d_MessageCoderModel_does_131 : decode prog_14_method_119_code 131 = .ok (.invokevirtual 125, 3) := by decide +kernel
theorem d_MessageCoderModel_does_134 : decode prog_14_method_119_code 134 = .ok (.ireturn, 1) := by decide +kernel
theorem d_MessageCoderModel_does_135 : decode prog_14_method_119_code 135 = .ok (.aload_n 0, 1) := by decide +kernel
theorem d_MessageCoderModel_does_136 : decode prog_14_method_119_code 136 = .ok (.iload_n 2, 1) := by decide +kernel
theorem d_MessageCoderModel_does_137 : decode prog_14_method_119_code 137 = .ok (.iload_n 3, 1) := by decide +kernel
theorem d_MessageCoderModel_does_138 : decode prog_14_method_119_code 138 = .ok (.invokevirtual 282, 3) := by decide +kernel
theorem d_MessageCoderModel_does_141 : decode prog_14_method_119_code 141 = .ok (.ireturn, 1) := by decide +kernel
theorem d_MessageCoderModel_does_142 : decode prog_14_method_119_code 142 = .ok (.aload_n 0, 1) := by decide +kernel
theorem d_MessageCoderModel_does_143 : decode prog_14_method_119_code 143 = .ok (.invokevirtual 135, 3) := by decide +kernel
theorem d_MessageCoderModel_does_146 : decode prog_14_method_119_code 146 = .ok (.ireturn, 1) := by decide +kernel
theorem d_MessageCoderModel_does_147 : decode prog_14_method_119_code 147 = .ok (.aload_n 0, 1) := by decide +kernel
theorem d_MessageCoderModel_does_148 : decode prog_14_method_119_code 148 = .ok (.iload_n 2, 1) := by decide +kernel
theorem d_MessageCoderModel_does_149 : decode prog_14_method_119_code 149 = .ok (.invokevirtual 139, 3) := by decide +kernel
theorem d_MessageCoderModel_does_152 : decode prog_14_method_119_code 152 = .ok (.ireturn, 1) := by decide +kernel
theorem d_MessageCoderModel_does_153 : decode prog_14_method_119_code 153 = .ok (.aload_n 0, 1) := by decide +kernel
theorem d_MessageCoderModel_does_154 : decode prog_14_method_119_code 154 = .ok (.iload_n 2, 1) := by decide +kernel
theorem d_MessageCoderModel_does_155 : decode prog_14_method_119_code 155 = .ok (.invokevirtual 149, 3) := by decide +kernel
theorem d_MessageCoderModel_does_158 : decode prog_14_method_119_code 158 = .ok (.ireturn, 1) := by decide +kernel
theorem d_MessageCoderModel_does_159 : decode prog_14_method_119_code 159 = .ok (.aload_n 0, 1) := by decide +kernel
theorem d_MessageCoderModel_does_160 : decode prog_14_method_119_code 160 = .ok (.iload_n 2, 1) := by decide +kernel
theorem d_MessageCoderModel_does_161 : decode prog_14_method_119_code 161 = .ok (.iload_n 3, 1) := by decide +kernel
theorem d_MessageCoderModel_does_162 : decode prog_14_method_119_code 162 = .ok (.invokevirtual 152, 3) := by decide +kernel
theorem d_MessageCoderModel_does_165 : decode prog_14_method_119_code 165 = .ok (.ireturn, 1) := by decide +kernel
theorem d_MessageCoderModel_does_166 : decode prog_14_method_119_code 166 = .ok (.aload_n 0, 1) := by decide +kernel
theorem d_MessageCoderModel_does_167 : decode prog_14_method_119_code 167 = .ok (.iload_n 2, 1) := by decide +kernel
theorem d_MessageCoderModel_does_168 : decode prog_14_method_119_code 168 = .ok (.invokevirtual 161, 3) := by decide +kernel
theorem d_MessageCoderModel_does_171 : decode prog_14_method_119_code 171 = .ok (.ireturn, 1) := by decide +kernel
theorem d_MessageCoderModel_does_172 : decode prog_14_method_119_code 172 = .ok (.aload_n 0, 1) := by decide +kernel
theorem d_MessageCoderModel_does_173 : decode prog_14_method_119_code 173 = .ok (.invokevirtual 179, 3) := by decide +kernel
theorem d_MessageCoderModel_does_176 : decode prog_14_method_119_code 176 = .ok (.ireturn, 1) := by decide +kernel
theorem d_MessageCoderModel_does_177 : decode prog_14_method_119_code 177 = .ok (.aload_n 0, 1) := by decide +kernel
theorem d_MessageCoderModel_does_178 : decode prog_14_method_119_code 178 = .ok (.iload_n 2, 1) := by decide +kernel
theorem d_MessageCoderModel_does_179 : decode prog_14_method_119_code 179 = .ok (.invokevirtual 185, 3) := by decide +kernel
theorem d_MessageCoderModel_does_182 : decode prog_14_method_119_code 182 = .ok (.ireturn, 1) := by decide +kernel
theorem d_MessageCoderModel_does_183 : decode prog_14_method_119_code 183 = .ok (.aload_n 0, 1) := by decide +kernel
theorem d_MessageCoderModel_does_184 : decode prog_14_method_119_code 184 = .ok (.invokevirtual 192, 3) := by decide +kernel
theorem d_MessageCoderModel_does_187 : decode prog_14_method_119_code 187 = .ok (.ireturn, 1) := by decide +kernel
set_option maxHeartbeats 4000000 in
set_option maxRecDepth 20000 in
theorem c_MessageCoderModel_does {P : xP} {F : xF} {z : Nat} {m : Nat} {th : Nat} {ch : Nat} {sv : Nat} {rs : Int32} {bm : Nat} {dm : Nat} {lz : Nat} {ty : Nat} {he : Nat} {er : Int32} {ea : Int32} {fa : Int32} {cn : Nat} {g : Nat → Nat} {A : aS} {l0 : Nat → Nat} {v0 : Nat → Nat} {r0 : Nat → Nat} {w0 : Nat → Nat} {b0 : Nat → Nat} {d0 : Nat → Nat} {K : kS} {A0 : aS} {p : Nat} {ip : Nat → Nat} {cs : Nat → Nat} {k : Nat} {n : Nat} {p1 : Nat} {J : Nat} {f1 : Nat} {f2 : Nat} (o0 : F (m) = some (.inl (10, [.int (nI (th)), .ref (m + 1), .int (nI (ch)), .int (nI (sv)), .int rs, .ref (m + 2), .ref (m + 3), .ref (m + 4), .ref (m + 5), .ref (m + 6), .int (nI (bm)), .ref (m + 7), .int (nI (dm)), .ref (m + 8), .ref (m + 9), .int (nI (lz)), .ref (m + 10), .int (nI (ty)), .int (nI (he)), .int er, .int ea, .int fa, .ref (m + 11), .int (nI (cn))]))) (ga : F (m + 1) = some (.inr (0, 4730, fun b9 => .int (nI (g b9))))) (h2 : F (m + 2) = some (.inr (0, 8, fun b9 => .int (nI (l0 b9))))) (h3 : F (m + 3) = some (.inr (0, 8, fun b9 => .int (nI (v0 b9))))) (h4 : F (m + 4) = some (.inr (0, 8, fun b9 => .int (nI (r0 b9))))) (h5 : F (m + 5) = some (.inr (0, 8, fun b9 => .int (nI (w0 b9))))) (h6 : F (m + 6) = some (.inr (0, 112, fun b9 => .int (nI (b0 b9))))) (h7 : F (m + 7) = some (.inr (0, 16, fun b9 => .int (nI (d0 b9))))) (hi : F (m + 10) = some (.inr (1, 60, fun b9 => .int (nI (ip b9))))) (hcm : F (m + 11) = some (.inr (0, 183, fun b9 => .int (nI (cs b9))))) (hr : rRow g A) (hA : aInv A) (hB : prgS K A0 p = (true, p, A)) (hk9 : 3 * k + 2 < 183) (hJ : J < 10) (hc0 : cs (3 * k) = ltr J) (hc1 : cs (3 * k + 1) = f1) (hc2 : cs (3 * k + 2) = (if J = 1 then f2 - f1 else f2)) (hcS : cmS K ip n p p1 J f1 f2 k) (hf : f1 ≤ 1000 ∧ f2 ≤ 1000) (hn : n ≤ 60) (hs : ∀ j, j < n → ip j < 65536) (hpK : p1 ≤ K.1) (hnx : A.2.2.1.2.1 + 1 < 1000) : xM P xy_MessageCoderModel_does [.ref m, .int (nI (3 * k))] F (z) 0 0 (fun r9 F9 z9 => ∃ g1 : Nat → Nat, ∃ rs1 : Int32, ∃ bm1 : Nat, ∃ dm1 : Nat, ∃ l1 : Nat → Nat, ∃ v1 : Nat → Nat, ∃ r1 : Nat → Nat, ∃ w1 : Nat → Nat, ∃ b1 : Nat → Nat, ∃ d1 : Nat → Nat, ∃ y1 : Nat, r9 = some (.int (nI (y1))) ∧ z9 = z ∧ F9 (m) = some (.inl (10, [.int (nI (th)), .ref (m + 1), .int (nI (ch)), .int (nI (sv)), .int rs1, .ref (m + 2), .ref (m + 3), .ref (m + 4), .ref (m + 5), .ref (m + 6), .int (nI (bm1)), .ref (m + 7), .int (nI (dm1)), .ref (m + 8), .ref (m + 9), .int (nI (lz)), .ref (m + 10), .int (nI (ty)), .int (nI (he)), .int er, .int ea, .int fa, .ref (m + 11), .int (nI (cn))])) ∧ F9 (m + 1) = some (.inr (0, 4730, fun b9 => .int (nI (g1 b9)))) ∧ F9 (m + 2) = some (.inr (0, 8, fun b9 => .int (nI (l1 b9)))) ∧ F9 (m + 3) = some (.inr (0, 8, fun b9 => .int (nI (v1 b9)))) ∧ F9 (m + 4) = some (.inr (0, 8, fun b9 => .int (nI (r1 b9)))) ∧ F9 (m + 5) = some (.inr (0, 8, fun b9 => .int (nI (w1 b9)))) ∧ F9 (m + 6) = some (.inr (0, 112, fun b9 => .int (nI (b1 b9)))) ∧ F9 (m + 7) = some (.inr (0, 16, fun b9 => .int (nI (d1 b9)))) ∧ F9 (m + 10) = some (.inr (1, 60, fun b9 => .int (nI (ip b9)))) ∧ F9 (m + 11) = some (.inr (0, 183, fun b9 => .int (nI (cs b9)))) ∧ (doR K A0 p p1 g1 y1) ∧ (∀ q, 430 ≤ q → g1 q = g q) ∧ (y1 ≤ 4) ∧ (∀ a9 : Nat, (a9 < m ∨ m + 8 ≤ a9) → F9 a9 = F a9)) := by
  refine xM_i .int rfl (Nat.le_of_ble_eq_true rfl) (L0 := [some (.ref m), some (.int (nI (3 * k))), none, none]) rfl rfl fun Θ hC hret => ?_
  have hag : ∀ a9 : Nat, (a9 < m ∨ m + 8 ≤ a9) → F a9 = F a9 := fun a9 _ => rfl
  refine x_aload_n hC d_MessageCoderModel_does_0 rfl rfl ?_
  refine x_getf hC kf_MessageCoderModel_48 o0 rfl d_MessageCoderModel_does_1 ?_
  refine x_iload_n hC d_MessageCoderModel_does_4 rfl rfl ?_
  refine x_iconst hC d_MessageCoderModel_does_5 (v := nI 1) (by decide) ?_
  refine x_iadd hC d_MessageCoderModel_does_6 (v := (nI (3 * k + 1))) (x_addN (by omega)) ?_
  refine x_iald hC hcm (j := 3 * k + 1) ⟨rfl, by omega, by omega⟩ (x := nI (f1)) (congrArg nI hc1) d_MessageCoderModel_does_7 ?_
  refine x_istore_n hC d_MessageCoderModel_does_8 rfl (Nat.le_of_ble_eq_true rfl) (L1 := [some (.ref m), some (.int (nI (3 * k))), some (.int (nI (f1))), none]) rfl ?_
  refine x_aload_n hC d_MessageCoderModel_does_9 rfl rfl ?_
  refine x_getf hC kf_MessageCoderModel_48 o0 rfl d_MessageCoderModel_does_10 ?_
  refine x_iload_n hC d_MessageCoderModel_does_13 rfl rfl ?_
  refine x_iconst hC d_MessageCoderModel_does_14 (v := nI 2) (by decide) ?_
  refine x_iadd hC d_MessageCoderModel_does_15 (v := (nI (3 * k + 2))) (x_addN (by omega)) ?_
  refine x_iald hC hcm (j := 3 * k + 2) ⟨rfl, by omega, by omega⟩ (x := nI (cs (3 * k + 2))) rfl d_MessageCoderModel_does_16 ?_
  refine x_istore_n hC d_MessageCoderModel_does_17 rfl (Nat.le_of_ble_eq_true rfl) (L1 := [some (.ref m), some (.int (nI (3 * k))), some (.int (nI (f1))), some (.int (nI (cs (3 * k + 2))))]) rfl ?_
  refine x_aload_n hC d_MessageCoderModel_does_18 rfl rfl ?_
  refine x_getf hC kf_MessageCoderModel_48 o0 rfl d_MessageCoderModel_does_19 ?_
  refine x_iload_n hC d_MessageCoderModel_does_22 rfl rfl ?_
  refine x_iald hC hcm (j := 3 * k) ⟨rfl, by omega, by omega⟩ (x := nI (ltr J)) (congrArg nI hc0) d_MessageCoderModel_does_23 ?_
  by_cases k_24_119 : (nI (ltr J)) = nI 119
  · skip
    refine x_top (v := nI 119) k_24_119 ?_
    refine x_tableIn hC d_MessageCoderModel_does_24 (by decide +kernel) (by decide +kernel) (off := 104) (by decide +kernel) (tgt := 128) (by decide) ?_
    have hJe : J = 0 := ltr_J J hJ 0 (by decide) ((nI_inj (by have := ltr_lt J hJ; omega) (by decide) k_24_119).trans (by decide))
    have hw2 : cs (3 * k + 2) = f2 := hc2.trans (if_neg (by omega))
    obtain ⟨s1, s2, s3, s4, s5⟩ := hcS.1 (by omega)
    rw [hw2]
    refine x_aload_n hC d_MessageCoderModel_does_128 rfl rfl ?_
    refine x_iload_n hC d_MessageCoderModel_does_129 rfl rfl ?_
    refine x_iload_n hC d_MessageCoderModel_does_130 rfl rfl ?_
    refine x_callV hC kv_MessageCoderModel_125 (c_MessageCoderModel_weighs (o0 := o0) (ga := ga) (hr := hr) (hA := hA) (hc := by omega)) o0 rfl rfl (by decide) rfl rfl rfl (Nat.le_of_ble_eq_true rfl) (by decide) d_MessageCoderModel_does_131 (fun r9 F9 z9 hp9 => ?_)
    obtain ⟨g1_131, rs1_131, rfl, h9c, j0, j1, pr_131, po_131, pv_131, hag9⟩ := hp9
    rw [h9c]
    clear h9c z9
    generalize F9 = F1 at *
    have h2 : F1 (m + 2) = some (.inr (0, 8, fun b9 => .int (nI (l0 b9)))) := (hag9 _ (by omega)).trans h2
    have h3 : F1 (m + 3) = some (.inr (0, 8, fun b9 => .int (nI (v0 b9)))) := (hag9 _ (by omega)).trans h3
    have h4 : F1 (m + 4) = some (.inr (0, 8, fun b9 => .int (nI (r0 b9)))) := (hag9 _ (by omega)).trans h4
    have h5 : F1 (m + 5) = some (.inr (0, 8, fun b9 => .int (nI (w0 b9)))) := (hag9 _ (by omega)).trans h5
    have h6 : F1 (m + 6) = some (.inr (0, 112, fun b9 => .int (nI (b0 b9)))) := (hag9 _ (by omega)).trans h6
    have h7 : F1 (m + 7) = some (.inr (0, 16, fun b9 => .int (nI (d0 b9)))) := (hag9 _ (by omega)).trans h7
    have hi : F1 (m + 10) = some (.inr (1, 60, fun b9 => .int (nI (ip b9)))) := (hag9 _ (by omega)).trans hi
    have hcm : F1 (m + 11) = some (.inr (0, 183, fun b9 => .int (nI (cs b9)))) := (hag9 _ (by omega)).trans hcm
    have o0 : F1 (m) = some (.inl (10, [.int (nI (th)), .ref (m + 1), .int (nI (ch)), .int (nI (sv)), .int rs1_131, .ref (m + 2), .ref (m + 3), .ref (m + 4), .ref (m + 5), .ref (m + 6), .int (nI (bm)), .ref (m + 7), .int (nI (dm)), .ref (m + 8), .ref (m + 9), .int (nI (lz)), .ref (m + 10), .int (nI (ty)), .int (nI (he)), .int er, .int ea, .int fa, .ref (m + 11), .int (nI (cn))])) := j0
    have ga : F1 (m + 1) = some (.inr (0, 4730, fun b9 => .int (nI (g1_131 b9)))) := j1
    have hag : ∀ a9 : Nat, (a9 < m ∨ m + 8 ≤ a9) → F1 a9 = F a9 := fun a9 q0 => (hag9 a9 (by omega)).trans (hag a9 q0)
    have hg_131 := hag9
    clear hag9
    refine hret _ _ _ _ _ _ _ d_MessageCoderModel_does_134 (by decide) (by decide) rfl ?_
    have e9 : aDo A (K.2.1 p) (K.2.2.1 p) (K.2.2.2.1 p) = aWt A f1 (nI f2) := by rw [s2, hJe, s3, s4]; rfl
    have h9 := do_one hB (by omega) e9 pr_131 (inv_Wt hA _ _) (rc_Wt hA)
    exact ⟨g1_131, rs1_131, bm, dm, l0, v0, r0, w0, b0, d0, codN (aWt A f1 (nI f2)).1, rfl, rfl, o0, ga, h2, h3, h4, h5, h6, h7, hi, hcm, by rw [s1]; exact h9, po_131, codN_4 _, hag⟩
  · skip
    by_cases k_24_100 : (nI (ltr J)) = nI 100
    · skip
      refine x_top (v := nI 100) k_24_100 ?_
      refine x_tableIn hC d_MessageCoderModel_does_24 (by decide +kernel) (by decide +kernel) (off := 111) (by decide +kernel) (tgt := 135) (by decide) ?_
      have hJe : J = 1 := ltr_J J hJ 1 (by decide) ((nI_inj (by have := ltr_lt J hJ; omega) (by decide) k_24_100).trans (by decide))
      have hw2 : cs (3 * k + 2) = f2 - f1 := hc2.trans (if_pos hJe)
      obtain ⟨s1, s2, s3, s4⟩ := hcS.2 hJe
      rw [hw2]
      refine x_aload_n hC d_MessageCoderModel_does_135 rfl rfl ?_
      refine x_iload_n hC d_MessageCoderModel_does_136 rfl rfl ?_
      refine x_iload_n hC d_MessageCoderModel_does_137 rfl rfl ?_
      refine x_callV hC kv_MessageCoderModel_282 (c_MessageCoderModel_draftsAll (o0 := o0) (ga := ga) (hi := hi) (hr := hr) (hA := hA) (hB := hB) (hpK := by omega) (hf60 := by omega) (hst := fun t ht => ⟨(s4 t ht).1, (s4 t ht).2.1⟩) (hip := fun t ht => hs _ (by omega)) (A := A) (K := K) (A0 := A0) (p := p)) o0 rfl rfl (by decide) rfl rfl rfl (Nat.le_of_ble_eq_true rfl) (by decide) d_MessageCoderModel_does_138 (fun r9 F9 z9 hp9 => ?_)
      obtain ⟨g1_138, rs1_138, y1_138, rfl, h9c, j0, j1, j2, pr_138, po_138, py_138, hag9⟩ := hp9
      rw [h9c]
      clear h9c z9
      generalize F9 = F2 at *
      have h2 : F2 (m + 2) = some (.inr (0, 8, fun b9 => .int (nI (l0 b9)))) := (hag9 _ (by omega)).trans h2
      have h3 : F2 (m + 3) = some (.inr (0, 8, fun b9 => .int (nI (v0 b9)))) := (hag9 _ (by omega)).trans h3
      have h4 : F2 (m + 4) = some (.inr (0, 8, fun b9 => .int (nI (r0 b9)))) := (hag9 _ (by omega)).trans h4
      have h5 : F2 (m + 5) = some (.inr (0, 8, fun b9 => .int (nI (w0 b9)))) := (hag9 _ (by omega)).trans h5
      have h6 : F2 (m + 6) = some (.inr (0, 112, fun b9 => .int (nI (b0 b9)))) := (hag9 _ (by omega)).trans h6
      have h7 : F2 (m + 7) = some (.inr (0, 16, fun b9 => .int (nI (d0 b9)))) := (hag9 _ (by omega)).trans h7
      have hcm : F2 (m + 11) = some (.inr (0, 183, fun b9 => .int (nI (cs b9)))) := (hag9 _ (by omega)).trans hcm
      have o0 : F2 (m) = some (.inl (10, [.int (nI (th)), .ref (m + 1), .int (nI (ch)), .int (nI (sv)), .int rs1_138, .ref (m + 2), .ref (m + 3), .ref (m + 4), .ref (m + 5), .ref (m + 6), .int (nI (bm)), .ref (m + 7), .int (nI (dm)), .ref (m + 8), .ref (m + 9), .int (nI (lz)), .ref (m + 10), .int (nI (ty)), .int (nI (he)), .int er, .int ea, .int fa, .ref (m + 11), .int (nI (cn))])) := j0
      have ga : F2 (m + 1) = some (.inr (0, 4730, fun b9 => .int (nI (g1_138 b9)))) := j1
      have hi : F2 (m + 10) = some (.inr (1, 60, fun b9 => .int (nI (ip b9)))) := j2
      have hag : ∀ a9 : Nat, (a9 < m ∨ m + 8 ≤ a9) → F2 a9 = F a9 := fun a9 q0 => (hag9 a9 (by omega)).trans (hag a9 q0)
      have hg_138 := hag9
      clear hag9
      exact hret _ _ _ _ _ _ _ d_MessageCoderModel_does_141 (by decide) (by decide) rfl (⟨g1_138, rs1_138, bm, dm, l0, v0, r0, w0, b0, d0, y1_138, rfl, rfl, o0, ga, h2, h3, h4, h5, h6, h7, hi, hcm, by rw [s3]; exact pr_138, po_138, py_138, hag⟩)
    · skip
      by_cases k_24_99 : (nI (ltr J)) = nI 99
      · skip
        refine x_top (v := nI 99) k_24_99 ?_
        refine x_tableIn hC d_MessageCoderModel_does_24 (by decide +kernel) (by decide +kernel) (off := 118) (by decide +kernel) (tgt := 142) (by decide) ?_
        have hJe : J = 2 := ltr_J J hJ 2 (by decide) ((nI_inj (by have := ltr_lt J hJ; omega) (by decide) k_24_99).trans (by decide))
        have hw2 : cs (3 * k + 2) = f2 := hc2.trans (if_neg (by omega))
        obtain ⟨s1, s2, s3, s4, s5⟩ := hcS.1 (by omega)
        rw [hw2]
        refine x_aload_n hC d_MessageCoderModel_does_142 rfl rfl ?_
        refine x_callV hC kv_MessageCoderModel_135 (c_MessageCoderModel_clears (o0 := o0) (ga := ga)) o0 rfl rfl (by decide) rfl rfl rfl (Nat.le_of_ble_eq_true rfl) (by decide) d_MessageCoderModel_does_143 (fun r9 F9 z9 hp9 => ?_)
        obtain ⟨rfl, h9c, j0, j1, hag9⟩ := hp9
        rw [h9c]
        clear h9c z9
        generalize F9 = F3 at *
        have h2 : F3 (m + 2) = some (.inr (0, 8, fun b9 => .int (nI (l0 b9)))) := (hag9 _ (by omega)).trans h2
        have h3 : F3 (m + 3) = some (.inr (0, 8, fun b9 => .int (nI (v0 b9)))) := (hag9 _ (by omega)).trans h3
        have h4 : F3 (m + 4) = some (.inr (0, 8, fun b9 => .int (nI (r0 b9)))) := (hag9 _ (by omega)).trans h4
        have h5 : F3 (m + 5) = some (.inr (0, 8, fun b9 => .int (nI (w0 b9)))) := (hag9 _ (by omega)).trans h5
        have h6 : F3 (m + 6) = some (.inr (0, 112, fun b9 => .int (nI (b0 b9)))) := (hag9 _ (by omega)).trans h6
        have h7 : F3 (m + 7) = some (.inr (0, 16, fun b9 => .int (nI (d0 b9)))) := (hag9 _ (by omega)).trans h7
        have hi : F3 (m + 10) = some (.inr (1, 60, fun b9 => .int (nI (ip b9)))) := (hag9 _ (by omega)).trans hi
        have hcm : F3 (m + 11) = some (.inr (0, 183, fun b9 => .int (nI (cs b9)))) := (hag9 _ (by omega)).trans hcm
        have o0 : F3 (m) = some (.inl (10, [.int (nI (th)), .ref (m + 1), .int (nI (ch)), .int (nI (sv)), .int (nI (g 0)), .ref (m + 2), .ref (m + 3), .ref (m + 4), .ref (m + 5), .ref (m + 6), .int (nI (bm)), .ref (m + 7), .int (nI (dm)), .ref (m + 8), .ref (m + 9), .int (nI (lz)), .ref (m + 10), .int (nI (ty)), .int (nI (he)), .int er, .int ea, .int fa, .ref (m + 11), .int (nI (cn))])) := j0
        have ga : F3 (m + 1) = some (.inr (0, 4730, fun b9 => .int (nI ((clG g) b9)))) := j1
        have hag : ∀ a9 : Nat, (a9 < m ∨ m + 8 ≤ a9) → F3 a9 = F a9 := fun a9 q0 => (hag9 a9 (by omega)).trans (hag a9 q0)
        have hg_143 := hag9
        clear hag9
        refine hret _ _ _ _ _ _ _ d_MessageCoderModel_does_146 (by decide) (by decide) rfl ?_
        have e9 : aDo A (K.2.1 p) (K.2.2.1 p) (K.2.2.2.1 p) = aCl A := by rw [s2, hJe]; rfl
        have c9 : codN (aCl A).1 = 0 := codN_pos (res_Cl A hA)
        have h9 := do_one hB (by omega) e9 (cl_row hr hA) (inv_Cl hA) (Or.inl (res_Cl A hA))
        rw [c9] at h9
        exact ⟨clG g, nI (g 0), bm, dm, l0, v0, r0, w0, b0, d0, 0, rfl, rfl, o0, ga, h2, h3, h4, h5, h6, h7, hi, hcm, by rw [s1]; exact h9, fun q hq => clG_o (by omega), by omega, hag⟩
      · skip
        by_cases k_24_112 : (nI (ltr J)) = nI 112
        · skip
          refine x_top (v := nI 112) k_24_112 ?_
          refine x_tableIn hC d_MessageCoderModel_does_24 (by decide +kernel) (by decide +kernel) (off := 123) (by decide +kernel) (tgt := 147) (by decide) ?_
          have hJe : J = 3 := ltr_J J hJ 3 (by decide) ((nI_inj (by have := ltr_lt J hJ; omega) (by decide) k_24_112).trans (by decide))
          have hw2 : cs (3 * k + 2) = f2 := hc2.trans (if_neg (by omega))
          obtain ⟨s1, s2, s3, s4, s5⟩ := hcS.1 (by omega)
          rw [hw2]
          refine x_aload_n hC d_MessageCoderModel_does_147 rfl rfl ?_
          refine x_iload_n hC d_MessageCoderModel_does_148 rfl rfl ?_
          refine x_callV hC kv_MessageCoderModel_139 (c_MessageCoderModel_posts (o0 := o0) (ga := ga) (hr := hr) (hA := hA)) o0 rfl rfl (by decide) rfl rfl rfl (Nat.le_of_ble_eq_true rfl) (by decide) d_MessageCoderModel_does_149 (fun r9 F9 z9 hp9 => ?_)
          obtain ⟨g1_149, rs1_149, rfl, h9c, j0, j1, pr_149, po_149, pv_149, hag9⟩ := hp9
          rw [h9c]
          clear h9c z9
          generalize F9 = F4 at *
          have h2 : F4 (m + 2) = some (.inr (0, 8, fun b9 => .int (nI (l0 b9)))) := (hag9 _ (by omega)).trans h2
          have h3 : F4 (m + 3) = some (.inr (0, 8, fun b9 => .int (nI (v0 b9)))) := (hag9 _ (by omega)).trans h3
          have h4 : F4 (m + 4) = some (.inr (0, 8, fun b9 => .int (nI (r0 b9)))) := (hag9 _ (by omega)).trans h4
          have h5 : F4 (m + 5) = some (.inr (0, 8, fun b9 => .int (nI (w0 b9)))) := (hag9 _ (by omega)).trans h5
          have h6 : F4 (m + 6) = some (.inr (0, 112, fun b9 => .int (nI (b0 b9)))) := (hag9 _ (by omega)).trans h6
          have h7 : F4 (m + 7) = some (.inr (0, 16, fun b9 => .int (nI (d0 b9)))) := (hag9 _ (by omega)).trans h7
          have hi : F4 (m + 10) = some (.inr (1, 60, fun b9 => .int (nI (ip b9)))) := (hag9 _ (by omega)).trans hi
          have hcm : F4 (m + 11) = some (.inr (0, 183, fun b9 => .int (nI (cs b9)))) := (hag9 _ (by omega)).trans hcm
          have o0 : F4 (m) = some (.inl (10, [.int (nI (th)), .ref (m + 1), .int (nI (ch)), .int (nI (sv)), .int rs1_149, .ref (m + 2), .ref (m + 3), .ref (m + 4), .ref (m + 5), .ref (m + 6), .int (nI (bm)), .ref (m + 7), .int (nI (dm)), .ref (m + 8), .ref (m + 9), .int (nI (lz)), .ref (m + 10), .int (nI (ty)), .int (nI (he)), .int er, .int ea, .int fa, .ref (m + 11), .int (nI (cn))])) := j0
          have ga : F4 (m + 1) = some (.inr (0, 4730, fun b9 => .int (nI (g1_149 b9)))) := j1
          have hag : ∀ a9 : Nat, (a9 < m ∨ m + 8 ≤ a9) → F4 a9 = F a9 := fun a9 q0 => (hag9 a9 (by omega)).trans (hag a9 q0)
          have hg_149 := hag9
          clear hag9
          refine hret _ _ _ _ _ _ _ d_MessageCoderModel_does_152 (by decide) (by decide) rfl ?_
          have e9 : aDo A (K.2.1 p) (K.2.2.1 p) (K.2.2.2.1 p) = aPo A (nI f1) := by rw [s2, hJe, s3, s4]; rfl
          have h9 := do_one hB (by omega) e9 pr_149 (inv_Po hA _ hnx) (rc_Po hA)
          exact ⟨g1_149, rs1_149, bm, dm, l0, v0, r0, w0, b0, d0, codN (aPo A (nI f1)).1, rfl, rfl, o0, ga, h2, h3, h4, h5, h6, h7, hi, hcm, by rw [s1]; exact h9, po_149, codN_4 _, hag⟩
        · skip
          by_cases k_24_120 : (nI (ltr J)) = nI 120
          · skip
            refine x_top (v := nI 120) k_24_120 ?_
            refine x_tableIn hC d_MessageCoderModel_does_24 (by decide +kernel) (by decide +kernel) (off := 129) (by decide +kernel) (tgt := 153) (by decide) ?_
            have hJe : J = 4 := ltr_J J hJ 4 (by decide) ((nI_inj (by have := ltr_lt J hJ; omega) (by decide) k_24_120).trans (by decide))
            have hw2 : cs (3 * k + 2) = f2 := hc2.trans (if_neg (by omega))
            obtain ⟨s1, s2, s3, s4, s5⟩ := hcS.1 (by omega)
            rw [hw2]
            refine x_aload_n hC d_MessageCoderModel_does_153 rfl rfl ?_
            refine x_iload_n hC d_MessageCoderModel_does_154 rfl rfl ?_
            refine x_callV hC kv_MessageCoderModel_149 (c_MessageCoderModel_drops (o0 := o0) (ga := ga) (hr := hr) (hA := hA)) o0 rfl rfl (by decide) rfl rfl rfl (Nat.le_of_ble_eq_true rfl) (by decide) d_MessageCoderModel_does_155 (fun r9 F9 z9 hp9 => ?_)
            obtain ⟨g1_155, rs1_155, rfl, h9c, j0, j1, pr_155, po_155, pv_155, hag9⟩ := hp9
            rw [h9c]
            clear h9c z9
            generalize F9 = F5 at *
            have h2 : F5 (m + 2) = some (.inr (0, 8, fun b9 => .int (nI (l0 b9)))) := (hag9 _ (by omega)).trans h2
            have h3 : F5 (m + 3) = some (.inr (0, 8, fun b9 => .int (nI (v0 b9)))) := (hag9 _ (by omega)).trans h3
            have h4 : F5 (m + 4) = some (.inr (0, 8, fun b9 => .int (nI (r0 b9)))) := (hag9 _ (by omega)).trans h4
            have h5 : F5 (m + 5) = some (.inr (0, 8, fun b9 => .int (nI (w0 b9)))) := (hag9 _ (by omega)).trans h5
            have h6 : F5 (m + 6) = some (.inr (0, 112, fun b9 => .int (nI (b0 b9)))) := (hag9 _ (by omega)).trans h6
            have h7 : F5 (m + 7) = some (.inr (0, 16, fun b9 => .int (nI (d0 b9)))) := (hag9 _ (by omega)).trans h7
            have hi : F5 (m + 10) = some (.inr (1, 60, fun b9 => .int (nI (ip b9)))) := (hag9 _ (by omega)).trans hi
            have hcm : F5 (m + 11) = some (.inr (0, 183, fun b9 => .int (nI (cs b9)))) := (hag9 _ (by omega)).trans hcm
            have o0 : F5 (m) = some (.inl (10, [.int (nI (th)), .ref (m + 1), .int (nI (ch)), .int (nI (sv)), .int rs1_155, .ref (m + 2), .ref (m + 3), .ref (m + 4), .ref (m + 5), .ref (m + 6), .int (nI (bm)), .ref (m + 7), .int (nI (dm)), .ref (m + 8), .ref (m + 9), .int (nI (lz)), .ref (m + 10), .int (nI (ty)), .int (nI (he)), .int er, .int ea, .int fa, .ref (m + 11), .int (nI (cn))])) := j0
            have ga : F5 (m + 1) = some (.inr (0, 4730, fun b9 => .int (nI (g1_155 b9)))) := j1
            have hag : ∀ a9 : Nat, (a9 < m ∨ m + 8 ≤ a9) → F5 a9 = F a9 := fun a9 q0 => (hag9 a9 (by omega)).trans (hag a9 q0)
            have hg_155 := hag9
            clear hag9
            refine hret _ _ _ _ _ _ _ d_MessageCoderModel_does_158 (by decide) (by decide) rfl ?_
            have e9 : aDo A (K.2.1 p) (K.2.2.1 p) (K.2.2.2.1 p) = aDi A (nI f1) := by rw [s2, hJe, s3, s4]; rfl
            have h9 := do_one hB (by omega) e9 pr_155 (inv_Di hA _) (rc_Di hA)
            exact ⟨g1_155, rs1_155, bm, dm, l0, v0, r0, w0, b0, d0, codN (aDi A (nI f1)).1, rfl, rfl, o0, ga, h2, h3, h4, h5, h6, h7, hi, hcm, by rw [s1]; exact h9, po_155, codN_4 _, hag⟩
          · skip
            by_cases k_24_104 : (nI (ltr J)) = nI 104
            · skip
              refine x_top (v := nI 104) k_24_104 ?_
              refine x_tableIn hC d_MessageCoderModel_does_24 (by decide +kernel) (by decide +kernel) (off := 135) (by decide +kernel) (tgt := 159) (by decide) ?_
              have hJe : J = 5 := ltr_J J hJ 5 (by decide) ((nI_inj (by have := ltr_lt J hJ; omega) (by decide) k_24_104).trans (by decide))
              have hw2 : cs (3 * k + 2) = f2 := hc2.trans (if_neg (by omega))
              obtain ⟨s1, s2, s3, s4, s5⟩ := hcS.1 (by omega)
              rw [hw2]
              refine x_aload_n hC d_MessageCoderModel_does_159 rfl rfl ?_
              refine x_iload_n hC d_MessageCoderModel_does_160 rfl rfl ?_
              refine x_iload_n hC d_MessageCoderModel_does_161 rfl rfl ?_
              refine x_callV hC kv_MessageCoderModel_152 (c_MessageCoderModel_hurries (o0 := o0) (ga := ga) (hr := hr) (hA := hA)) o0 rfl rfl (by decide) rfl rfl rfl (Nat.le_of_ble_eq_true rfl) (by decide) d_MessageCoderModel_does_162 (fun r9 F9 z9 hp9 => ?_)
              obtain ⟨g1_162, rs1_162, rfl, h9c, j0, j1, pr_162, po_162, pv_162, hag9⟩ := hp9
              rw [h9c]
              clear h9c z9
              generalize F9 = F6 at *
              have h2 : F6 (m + 2) = some (.inr (0, 8, fun b9 => .int (nI (l0 b9)))) := (hag9 _ (by omega)).trans h2
              have h3 : F6 (m + 3) = some (.inr (0, 8, fun b9 => .int (nI (v0 b9)))) := (hag9 _ (by omega)).trans h3
              have h4 : F6 (m + 4) = some (.inr (0, 8, fun b9 => .int (nI (r0 b9)))) := (hag9 _ (by omega)).trans h4
              have h5 : F6 (m + 5) = some (.inr (0, 8, fun b9 => .int (nI (w0 b9)))) := (hag9 _ (by omega)).trans h5
              have h6 : F6 (m + 6) = some (.inr (0, 112, fun b9 => .int (nI (b0 b9)))) := (hag9 _ (by omega)).trans h6
              have h7 : F6 (m + 7) = some (.inr (0, 16, fun b9 => .int (nI (d0 b9)))) := (hag9 _ (by omega)).trans h7
              have hi : F6 (m + 10) = some (.inr (1, 60, fun b9 => .int (nI (ip b9)))) := (hag9 _ (by omega)).trans hi
              have hcm : F6 (m + 11) = some (.inr (0, 183, fun b9 => .int (nI (cs b9)))) := (hag9 _ (by omega)).trans hcm
              have o0 : F6 (m) = some (.inl (10, [.int (nI (th)), .ref (m + 1), .int (nI (ch)), .int (nI (sv)), .int rs1_162, .ref (m + 2), .ref (m + 3), .ref (m + 4), .ref (m + 5), .ref (m + 6), .int (nI (bm)), .ref (m + 7), .int (nI (dm)), .ref (m + 8), .ref (m + 9), .int (nI (lz)), .ref (m + 10), .int (nI (ty)), .int (nI (he)), .int er, .int ea, .int fa, .ref (m + 11), .int (nI (cn))])) := j0
              have ga : F6 (m + 1) = some (.inr (0, 4730, fun b9 => .int (nI (g1_162 b9)))) := j1
              have hag : ∀ a9 : Nat, (a9 < m ∨ m + 8 ≤ a9) → F6 a9 = F a9 := fun a9 q0 => (hag9 a9 (by omega)).trans (hag a9 q0)
              have hg_162 := hag9
              clear hag9
              refine hret _ _ _ _ _ _ _ d_MessageCoderModel_does_165 (by decide) (by decide) rfl ?_
              have e9 : aDo A (K.2.1 p) (K.2.2.1 p) (K.2.2.2.1 p) = aHu A (nI f1) (nI f2) := by rw [s2, hJe, s3, s4]; rfl
              have h9 := do_one hB (by omega) e9 pr_162 (inv_Hu hA _ _) (rc_Hu hA)
              exact ⟨g1_162, rs1_162, bm, dm, l0, v0, r0, w0, b0, d0, codN (aHu A (nI f1) (nI f2)).1, rfl, rfl, o0, ga, h2, h3, h4, h5, h6, h7, hi, hcm, by rw [s1]; exact h9, po_162, codN_4 _, hag⟩
            · skip
              by_cases k_24_108 : (nI (ltr J)) = nI 108
              · skip
                refine x_top (v := nI 108) k_24_108 ?_
                refine x_tableIn hC d_MessageCoderModel_does_24 (by decide +kernel) (by decide +kernel) (off := 142) (by decide +kernel) (tgt := 166) (by decide) ?_
                have hJe : J = 6 := ltr_J J hJ 6 (by decide) ((nI_inj (by have := ltr_lt J hJ; omega) (by decide) k_24_108).trans (by decide))
                have hw2 : cs (3 * k + 2) = f2 := hc2.trans (if_neg (by omega))
                obtain ⟨s1, s2, s3, s4, s5⟩ := hcS.1 (by omega)
                rw [hw2]
                refine x_aload_n hC d_MessageCoderModel_does_166 rfl rfl ?_
                refine x_iload_n hC d_MessageCoderModel_does_167 rfl rfl ?_
                refine x_callV hC kv_MessageCoderModel_161 (c_MessageCoderModel_learns (o0 := o0) (ga := ga) (hr := hr) (hA := hA)) o0 rfl rfl (by decide) rfl rfl rfl (Nat.le_of_ble_eq_true rfl) (by decide) d_MessageCoderModel_does_168 (fun r9 F9 z9 hp9 => ?_)
                obtain ⟨g1_168, rs1_168, rfl, h9c, j0, j1, pr_168, po_168, pv_168, hag9⟩ := hp9
                rw [h9c]
                clear h9c z9
                generalize F9 = F7 at *
                have h2 : F7 (m + 2) = some (.inr (0, 8, fun b9 => .int (nI (l0 b9)))) := (hag9 _ (by omega)).trans h2
                have h3 : F7 (m + 3) = some (.inr (0, 8, fun b9 => .int (nI (v0 b9)))) := (hag9 _ (by omega)).trans h3
                have h4 : F7 (m + 4) = some (.inr (0, 8, fun b9 => .int (nI (r0 b9)))) := (hag9 _ (by omega)).trans h4
                have h5 : F7 (m + 5) = some (.inr (0, 8, fun b9 => .int (nI (w0 b9)))) := (hag9 _ (by omega)).trans h5
                have h6 : F7 (m + 6) = some (.inr (0, 112, fun b9 => .int (nI (b0 b9)))) := (hag9 _ (by omega)).trans h6
                have h7 : F7 (m + 7) = some (.inr (0, 16, fun b9 => .int (nI (d0 b9)))) := (hag9 _ (by omega)).trans h7
                have hi : F7 (m + 10) = some (.inr (1, 60, fun b9 => .int (nI (ip b9)))) := (hag9 _ (by omega)).trans hi
                have hcm : F7 (m + 11) = some (.inr (0, 183, fun b9 => .int (nI (cs b9)))) := (hag9 _ (by omega)).trans hcm
                have o0 : F7 (m) = some (.inl (10, [.int (nI (th)), .ref (m + 1), .int (nI (ch)), .int (nI (sv)), .int rs1_168, .ref (m + 2), .ref (m + 3), .ref (m + 4), .ref (m + 5), .ref (m + 6), .int (nI (bm)), .ref (m + 7), .int (nI (dm)), .ref (m + 8), .ref (m + 9), .int (nI (lz)), .ref (m + 10), .int (nI (ty)), .int (nI (he)), .int er, .int ea, .int fa, .ref (m + 11), .int (nI (cn))])) := j0
                have ga : F7 (m + 1) = some (.inr (0, 4730, fun b9 => .int (nI (g1_168 b9)))) := j1
                have hag : ∀ a9 : Nat, (a9 < m ∨ m + 8 ≤ a9) → F7 a9 = F a9 := fun a9 q0 => (hag9 a9 (by omega)).trans (hag a9 q0)
                have hg_168 := hag9
                clear hag9
                refine hret _ _ _ _ _ _ _ d_MessageCoderModel_does_171 (by decide) (by decide) rfl ?_
                have e9 : aDo A (K.2.1 p) (K.2.2.1 p) (K.2.2.2.1 p) = aLe A (nI f1) := by rw [s2, hJe, s3, s4]; rfl
                have h9 := do_one hB (by omega) e9 pr_168 (inv_Le hA _) (rc_Le hA)
                exact ⟨g1_168, rs1_168, bm, dm, l0, v0, r0, w0, b0, d0, codN (aLe A (nI f1)).1, rfl, rfl, o0, ga, h2, h3, h4, h5, h6, h7, hi, hcm, by rw [s1]; exact h9, po_168, codN_4 _, hag⟩
              · skip
                by_cases k_24_115 : (nI (ltr J)) = nI 115
                · skip
                  refine x_top (v := nI 115) k_24_115 ?_
                  refine x_tableIn hC d_MessageCoderModel_does_24 (by decide +kernel) (by decide +kernel) (off := 148) (by decide +kernel) (tgt := 172) (by decide) ?_
                  have hJe : J = 7 := ltr_J J hJ 7 (by decide) ((nI_inj (by have := ltr_lt J hJ; omega) (by decide) k_24_115).trans (by decide))
                  have hw2 : cs (3 * k + 2) = f2 := hc2.trans (if_neg (by omega))
                  obtain ⟨s1, s2, s3, s4, s5⟩ := hcS.1 (by omega)
                  rw [hw2]
                  refine x_aload_n hC d_MessageCoderModel_does_172 rfl rfl ?_
                  refine x_callV hC kv_MessageCoderModel_179 (c_MessageCoderModel_sends (o0 := o0) (ga := ga) (h2 := h2) (h3 := h3) (h4 := h4) (h5 := h5) (h6 := h6) (hr := hr) (hA := hA)) o0 rfl rfl (by decide) rfl rfl rfl (Nat.le_of_ble_eq_true rfl) (by decide) d_MessageCoderModel_does_173 (fun r9 F9 z9 hp9 => ?_)
                  obtain ⟨g1_173, rs1_173, bm1_173, l1_173, v1_173, r1_173, w1_173, b1_173, rfl, h9c, j0, j1, j2, j3, j4, j5, j6, pr_173, po_173, pv_173, hag9⟩ := hp9
                  rw [h9c]
                  clear h9c z9
                  generalize F9 = F8 at *
                  have h7 : F8 (m + 7) = some (.inr (0, 16, fun b9 => .int (nI (d0 b9)))) := (hag9 _ (by omega)).trans h7
                  have hi : F8 (m + 10) = some (.inr (1, 60, fun b9 => .int (nI (ip b9)))) := (hag9 _ (by omega)).trans hi
                  have hcm : F8 (m + 11) = some (.inr (0, 183, fun b9 => .int (nI (cs b9)))) := (hag9 _ (by omega)).trans hcm
                  have o0 : F8 (m) = some (.inl (10, [.int (nI (th)), .ref (m + 1), .int (nI (ch)), .int (nI (sv)), .int rs1_173, .ref (m + 2), .ref (m + 3), .ref (m + 4), .ref (m + 5), .ref (m + 6), .int (nI (bm1_173)), .ref (m + 7), .int (nI (dm)), .ref (m + 8), .ref (m + 9), .int (nI (lz)), .ref (m + 10), .int (nI (ty)), .int (nI (he)), .int er, .int ea, .int fa, .ref (m + 11), .int (nI (cn))])) := j0
                  have ga : F8 (m + 1) = some (.inr (0, 4730, fun b9 => .int (nI (g1_173 b9)))) := j1
                  have h2 : F8 (m + 2) = some (.inr (0, 8, fun b9 => .int (nI (l1_173 b9)))) := j2
                  have h3 : F8 (m + 3) = some (.inr (0, 8, fun b9 => .int (nI (v1_173 b9)))) := j3
                  have h4 : F8 (m + 4) = some (.inr (0, 8, fun b9 => .int (nI (r1_173 b9)))) := j4
                  have h5 : F8 (m + 5) = some (.inr (0, 8, fun b9 => .int (nI (w1_173 b9)))) := j5
                  have h6 : F8 (m + 6) = some (.inr (0, 112, fun b9 => .int (nI (b1_173 b9)))) := j6
                  have hag : ∀ a9 : Nat, (a9 < m ∨ m + 8 ≤ a9) → F8 a9 = F a9 := fun a9 q0 => (hag9 a9 (by omega)).trans (hag a9 q0)
                  have hg_173 := hag9
                  clear hag9
                  refine hret _ _ _ _ _ _ _ d_MessageCoderModel_does_176 (by decide) (by decide) rfl ?_
                  have e9 : aDo A (K.2.1 p) (K.2.2.1 p) (K.2.2.2.1 p) = aSe A := by rw [s2, hJe, s3, s4]; rfl
                  have h9 := do_one hB (by omega) e9 pr_173 (inv_Se hA) (rc_Se hA)
                  exact ⟨g1_173, rs1_173, bm1_173, dm, l1_173, v1_173, r1_173, w1_173, b1_173, d0, codN (aSe A).1, rfl, rfl, o0, ga, h2, h3, h4, h5, h6, h7, hi, hcm, by rw [s1]; exact h9, po_173, codN_4 _, hag⟩
                · skip
                  by_cases k_24_102 : (nI (ltr J)) = nI 102
                  · skip
                    refine x_top (v := nI 102) k_24_102 ?_
                    refine x_tableIn hC d_MessageCoderModel_does_24 (by decide +kernel) (by decide +kernel) (off := 153) (by decide +kernel) (tgt := 177) (by decide) ?_
                    have hJe : J = 8 := ltr_J J hJ 8 (by decide) ((nI_inj (by have := ltr_lt J hJ; omega) (by decide) k_24_102).trans (by decide))
                    have hw2 : cs (3 * k + 2) = f2 := hc2.trans (if_neg (by omega))
                    obtain ⟨s1, s2, s3, s4, s5⟩ := hcS.1 (by omega)
                    rw [hw2]
                    refine x_aload_n hC d_MessageCoderModel_does_177 rfl rfl ?_
                    refine x_iload_n hC d_MessageCoderModel_does_178 rfl rfl ?_
                    refine x_callV hC kv_MessageCoderModel_185 (c_MessageCoderModel_flips (o0 := o0) (ga := ga) (hr := hr) (hA := hA)) o0 rfl rfl (by decide) rfl rfl rfl (Nat.le_of_ble_eq_true rfl) (by decide) d_MessageCoderModel_does_179 (fun r9 F9 z9 hp9 => ?_)
                    obtain ⟨g1_179, rs1_179, rfl, h9c, j0, j1, pr_179, po_179, pv_179, hag9⟩ := hp9
                    rw [h9c]
                    clear h9c z9
                    generalize F9 = F9 at *
                    have h2 : F9 (m + 2) = some (.inr (0, 8, fun b9 => .int (nI (l0 b9)))) := (hag9 _ (by omega)).trans h2
                    have h3 : F9 (m + 3) = some (.inr (0, 8, fun b9 => .int (nI (v0 b9)))) := (hag9 _ (by omega)).trans h3
                    have h4 : F9 (m + 4) = some (.inr (0, 8, fun b9 => .int (nI (r0 b9)))) := (hag9 _ (by omega)).trans h4
                    have h5 : F9 (m + 5) = some (.inr (0, 8, fun b9 => .int (nI (w0 b9)))) := (hag9 _ (by omega)).trans h5
                    have h6 : F9 (m + 6) = some (.inr (0, 112, fun b9 => .int (nI (b0 b9)))) := (hag9 _ (by omega)).trans h6
                    have h7 : F9 (m + 7) = some (.inr (0, 16, fun b9 => .int (nI (d0 b9)))) := (hag9 _ (by omega)).trans h7
                    have hi : F9 (m + 10) = some (.inr (1, 60, fun b9 => .int (nI (ip b9)))) := (hag9 _ (by omega)).trans hi
                    have hcm : F9 (m + 11) = some (.inr (0, 183, fun b9 => .int (nI (cs b9)))) := (hag9 _ (by omega)).trans hcm
                    have o0 : F9 (m) = some (.inl (10, [.int (nI (th)), .ref (m + 1), .int (nI (ch)), .int (nI (sv)), .int rs1_179, .ref (m + 2), .ref (m + 3), .ref (m + 4), .ref (m + 5), .ref (m + 6), .int (nI (bm)), .ref (m + 7), .int (nI (dm)), .ref (m + 8), .ref (m + 9), .int (nI (lz)), .ref (m + 10), .int (nI (ty)), .int (nI (he)), .int er, .int ea, .int fa, .ref (m + 11), .int (nI (cn))])) := j0
                    have ga : F9 (m + 1) = some (.inr (0, 4730, fun b9 => .int (nI (g1_179 b9)))) := j1
                    have hag : ∀ a9 : Nat, (a9 < m ∨ m + 8 ≤ a9) → F9 a9 = F a9 := fun a9 q0 => (hag9 a9 (by omega)).trans (hag a9 q0)
                    have hg_179 := hag9
                    clear hag9
                    refine hret _ _ _ _ _ _ _ d_MessageCoderModel_does_182 (by decide) (by decide) rfl ?_
                    have e9 : aDo A (K.2.1 p) (K.2.2.1 p) (K.2.2.2.1 p) = aFl A (nI f1) := by rw [s2, hJe, s3, s4]; rfl
                    have h9 := do_one hB (by omega) e9 pr_179 (inv_Fl hA _) (rc_Fl hA)
                    exact ⟨g1_179, rs1_179, bm, dm, l0, v0, r0, w0, b0, d0, codN (aFl A (nI f1)).1, rfl, rfl, o0, ga, h2, h3, h4, h5, h6, h7, hi, hcm, by rw [s1]; exact h9, po_179, codN_4 _, hag⟩
                  · skip
                    have hX9 : ltr J = 114 := (by rcases ltr_all J hJ with h9 | h9 | h9 | h9 | h9 | h9 | h9 | h9 | h9 | h9 <;> first | exact h9 | exact absurd (congrArg nI h9) k_24_119 | exact absurd (congrArg nI h9) k_24_100 | exact absurd (congrArg nI h9) k_24_99 | exact absurd (congrArg nI h9) k_24_112 | exact absurd (congrArg nI h9) k_24_120 | exact absurd (congrArg nI h9) k_24_104 | exact absurd (congrArg nI h9) k_24_108 | exact absurd (congrArg nI h9) k_24_115 | exact absurd (congrArg nI h9) k_24_102)
                    refine x_top (v := nI 114) (congrArg nI hX9) ?_
                    refine x_tableIn hC d_MessageCoderModel_does_24 (by decide +kernel) (by decide +kernel) (off := 159) (by decide +kernel) (tgt := 183) (by decide) ?_
                    have hJe : J = 9 := ltr_J J hJ 9 (by decide) (hX9.trans (by decide))
                    have hw2 : cs (3 * k + 2) = f2 := hc2.trans (if_neg (by omega))
                    obtain ⟨s1, s2, s3, s4, s5⟩ := hcS.1 (by omega)
                    rw [hw2]
                    refine x_aload_n hC d_MessageCoderModel_does_183 rfl rfl ?_
                    refine x_callV hC kv_MessageCoderModel_192 (c_MessageCoderModel_receives (o0 := o0) (ga := ga) (h7 := h7) (hr := hr) (hA := hA)) o0 rfl rfl (by decide) rfl rfl rfl (Nat.le_of_ble_eq_true rfl) (by decide) d_MessageCoderModel_does_184 (fun r9 F9 z9 hp9 => ?_)
                    obtain ⟨g1_184, rs1_184, dm1_184, d1_184, rfl, h9c, j0, j1, j2, pr_184, po_184, pv_184, hag9⟩ := hp9
                    rw [h9c]
                    clear h9c z9
                    generalize F9 = F10 at *
                    have h2 : F10 (m + 2) = some (.inr (0, 8, fun b9 => .int (nI (l0 b9)))) := (hag9 _ (by omega) (by omega)).trans h2
                    have h3 : F10 (m + 3) = some (.inr (0, 8, fun b9 => .int (nI (v0 b9)))) := (hag9 _ (by omega) (by omega)).trans h3
                    have h4 : F10 (m + 4) = some (.inr (0, 8, fun b9 => .int (nI (r0 b9)))) := (hag9 _ (by omega) (by omega)).trans h4
                    have h5 : F10 (m + 5) = some (.inr (0, 8, fun b9 => .int (nI (w0 b9)))) := (hag9 _ (by omega) (by omega)).trans h5
                    have h6 : F10 (m + 6) = some (.inr (0, 112, fun b9 => .int (nI (b0 b9)))) := (hag9 _ (by omega) (by omega)).trans h6
                    have hi : F10 (m + 10) = some (.inr (1, 60, fun b9 => .int (nI (ip b9)))) := (hag9 _ (by omega) (by omega)).trans hi
                    have hcm : F10 (m + 11) = some (.inr (0, 183, fun b9 => .int (nI (cs b9)))) := (hag9 _ (by omega) (by omega)).trans hcm
                    have o0 : F10 (m) = some (.inl (10, [.int (nI (th)), .ref (m + 1), .int (nI (ch)), .int (nI (sv)), .int rs1_184, .ref (m + 2), .ref (m + 3), .ref (m + 4), .ref (m + 5), .ref (m + 6), .int (nI (bm)), .ref (m + 7), .int (nI (dm1_184)), .ref (m + 8), .ref (m + 9), .int (nI (lz)), .ref (m + 10), .int (nI (ty)), .int (nI (he)), .int er, .int ea, .int fa, .ref (m + 11), .int (nI (cn))])) := j0
                    have ga : F10 (m + 1) = some (.inr (0, 4730, fun b9 => .int (nI (g1_184 b9)))) := j1
                    have h7 : F10 (m + 7) = some (.inr (0, 16, fun b9 => .int (nI (d1_184 b9)))) := j2
                    have hag : ∀ a9 : Nat, (a9 < m ∨ m + 8 ≤ a9) → F10 a9 = F a9 := fun a9 q0 => (hag9 a9 (by omega) (by omega)).trans (hag a9 q0)
                    have hg_184 := hag9
                    clear hag9
                    refine hret _ _ _ _ _ _ _ d_MessageCoderModel_does_187 (by decide) (by decide) rfl ?_
                    have e9 : aDo A (K.2.1 p) (K.2.2.1 p) (K.2.2.2.1 p) = aRe A := by rw [s2, hJe, s3, s4]; rfl
                    have h9 := do_one hB (by omega) e9 pr_184 (inv_Re hA) (rc_Re hA)
                    exact ⟨g1_184, rs1_184, bm, dm1_184, l0, v0, r0, w0, b0, d1_184, codN (aRe A).1, rfl, rfl, o0, ga, h2, h3, h4, h5, h6, h7, hi, hcm, by rw [s1]; exact h9, po_184, codN_4 _, hag⟩

