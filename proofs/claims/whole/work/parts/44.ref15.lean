/-! the reference: its reading of draft and drop -/
def dfP (n : Nat) (s : Nat → Nat) (q : Nat × Nat) : Nat × Nat := nd n s 32 (nd n s 116 (nd n s 102 (nd n s 97 q)))
def dfQ (n : Nat) (s : Nat → Nat) (q : Nat × Nat) : Nat × Nat := if (dfP n s q).2 = 0 then if (dfP n s q).1 < pEnd n s (dfP n s q).1 n then (pEnd n s (dfP n s q).1 n, 0) else ((dfP n s q).1, (dfP n s q).1 + 1) else dfP n s q
theorem pEnd_1 {n : Nat} {s : Nat → Nat} {a : Nat} (h : a < n ∧ isSy (s a)) : pEnd n s a 1 = a + 1 := if_pos ⟨h.1, sy_N.mpr h⟩
theorem pEnd_hit {n : Nat} {s : Nat → Nat} {a k x : Nat} (h : pEnd n s a k = x) (hx : x < n ∧ isSy (s x)) : pEnd n s a (k + 1) = x + 1 := by
  show (if pEnd n s a k < n ∧ isSy (sgN n s (pEnd n s a k)) then pEnd n s a k + 1 else pEnd n s a k) = _
  rw [h, if_pos ⟨hx.1, sy_N.mpr hx⟩]
theorem pEnd_no {n : Nat} {s : Nat → Nat} {a k x : Nat} (h : pEnd n s a k = x) (hx : ¬ (x < n ∧ isSy (s x))) (hk : k ≤ n) : pEnd n s a n = x := by
  have h1 := pEnd_stop (n := n) (s := s) (a := a) (k := k) (by rw [h]; exact fun q => hx (sy_N.mp q.2)) (n - k)
  rw [show k + (n - k) = n by omega, h] at h1
  exact h1
def ddQ (n : Nat) (s : Nat → Nat) (q : Nat × Nat) : Bool × Nat × Nat := if (nd n s 114 q).2 = 0 ∧ (nd n s 114 q).1 < n ∧ s (nd n s 114 q).1 = 97 then (true, dfQ n s (nd n s 114 q)) else (false, (bh n s 32 3 (nd n s 112 (nd n s 111 (nd n s 114 q)))).1)

theorem d_MessageCoderModel_drafting_0 : decode prog_14_method_111_code 0 = .ok (.aload_n 0, 1) := by decide +kernel
theorem d_MessageCoderModel_drafting_1 : decode prog_14_method_111_code 1 = .ok (.bipush 97, 2) := by decide +kernel
theorem d_MessageCoderModel_drafting_3 : decode prog_14_method_111_code 3 = .ok (.bipush 102, 2) := by decide +kernel
theorem d_MessageCoderModel_drafting_5 : decode prog_14_method_111_code 5 = .ok (.bipush 116, 2) := by decide +kernel
theorem d_MessageCoderModel_drafting_7 : decode prog_14_method_111_code 7 = .ok (.invokevirtual 251, 3) := by decide +kernel
theorem d_MessageCoderModel_drafting_10 : decode prog_14_method_111_code 10 = .ok (.aload_n 0, 1) := by decide +kernel
theorem d_MessageCoderModel_drafting_11 : decode prog_14_method_111_code 11 = .ok (.bipush 32, 2) := by decide +kernel
theorem d_MessageCoderModel_drafting_13 : decode prog_14_method_111_code 13 = .ok (.invokevirtual 248, 3) := by decide +kernel
theorem d_MessageCoderModel_drafting_16 : decode prog_14_method_111_code 16 = .ok (.aload_n 0, 1) := by decide +kernel
theorem d_MessageCoderModel_drafting_17 : decode prog_14_method_111_code 17 = .ok (.getfield 48, 3) := by decide +kernel
theorem d_MessageCoderModel_drafting_20 : decode prog_14_method_111_code 20 = .ok (.iload_n 1, 1) := by decide +kernel
theorem d_MessageCoderModel_drafting_21 : decode prog_14_method_111_code 21 = .ok (.iconst 1, 1) := by decide +kernel
theorem d_MessageCoderModel_drafting_22 : decode prog_14_method_111_code 22 = .ok (.iadd, 1) := by decide +kernel
theorem d_MessageCoderModel_drafting_23 : decode prog_14_method_111_code 23 = .ok (.aload_n 0, 1) := by decide +kernel
theorem d_MessageCoderModel_drafting_24 : decode prog_14_method_111_code 24 = .ok (.getfield 239, 3) := by decide +kernel
theorem d_MessageCoderModel_drafting_27 : decode prog_14_method_111_code 27 = .ok (.iastore, 1) := by decide +kernel
theorem d_MessageCoderModel_drafting_28 : decode prog_14_method_111_code 28 = .ok (.aload_n 0, 1) := by decide +kernel
theorem d_MessageCoderModel_drafting_29 : decode prog_14_method_111_code 29 = .ok (.invokevirtual 255, 3) := by decide +kernel
theorem d_MessageCoderModel_drafting_32 : decode prog_14_method_111_code 32 = .ok (.istore_n 2, 1) := by decide +kernel
theorem d_MessageCoderModel_drafting_33 : decode prog_14_method_111_code 33 = .ok (.aload_n 0, 1) := by decide +kernel
theorem d_MessageCoderModel_drafting_34 : decode prog_14_method_111_code 34 = .ok (.getfield 242, 3) := by decide +kernel
theorem d_MessageCoderModel_drafting_37 : decode prog_14_method_111_code 37 = .ok (.ifCond .ge 26, 3) := by decide +kernel
theorem d_MessageCoderModel_drafting_40 : decode prog_14_method_111_code 40 = .ok (.aload_n 0, 1) := by decide +kernel
theorem d_MessageCoderModel_drafting_41 : decode prog_14_method_111_code 41 = .ok (.invokevirtual 245, 3) := by decide +kernel
theorem d_MessageCoderModel_drafting_44 : decode prog_14_method_111_code 44 = .ok (.invokestatic 118, 3) := by decide +kernel
theorem d_MessageCoderModel_drafting_47 : decode prog_14_method_111_code 47 = .ok (.ifCond .eq 16, 3) := by decide +kernel
theorem d_MessageCoderModel_drafting_50 : decode prog_14_method_111_code 50 = .ok (.aload_n 0, 1) := by decide +kernel
theorem d_MessageCoderModel_drafting_51 : decode prog_14_method_111_code 51 = .ok (.dup, 1) := by decide +kernel
theorem d_MessageCoderModel_drafting_52 : decode prog_14_method_111_code 52 = .ok (.getfield 239, 3) := by decide +kernel
theorem d_MessageCoderModel_drafting_55 : decode prog_14_method_111_code 55 = .ok (.iconst 1, 1) := by decide +kernel
theorem d_MessageCoderModel_drafting_56 : decode prog_14_method_111_code 56 = .ok (.iadd, 1) := by decide +kernel
theorem d_MessageCoderModel_drafting_57 : decode prog_14_method_111_code 57 = .ok (.putfield 239, 3) := by decide +kernel
theorem d_MessageCoderModel_drafting_60 : decode prog_14_method_111_code 60 = .ok (.goto (-27), 3) := by decide +kernel
theorem d_MessageCoderModel_drafting_63 : decode prog_14_method_111_code 63 = .ok (.aload_n 0, 1) := by decide +kernel
theorem d_MessageCoderModel_drafting_64 : decode prog_14_method_111_code 64 = .ok (.getfield 48, 3) := by decide +kernel
theorem d_MessageCoderModel_drafting_67 : decode prog_14_method_111_code 67 = .ok (.iload_n 1, 1) := by decide +kernel
theorem d_MessageCoderModel_drafting_68 : decode prog_14_method_111_code 68 = .ok (.iconst 2, 1) := by decide +kernel
theorem d_MessageCoderModel_drafting_69 : decode prog_14_method_111_code 69 = .ok (.iadd, 1) := by decide +kernel
theorem d_MessageCoderModel_drafting_70 : decode prog_14_method_111_code 70 = .ok (.aload_n 0, 1) := by decide +kernel
theorem d_MessageCoderModel_drafting_71 : decode prog_14_method_111_code 71 = .ok (.getfield 239, 3) := by decide +kernel
theorem d_MessageCoderModel_drafting_74 : decode prog_14_method_111_code 74 = .ok (.aload_n 0, 1) := by decide +kernel
theorem d_MessageCoderModel_drafting_75 : decode prog_14_method_111_code 75 = .ok (.getfield 48, 3) := by decide +kernel
theorem d_MessageCoderModel_drafting_78 : decode prog_14_method_111_code 78 = .ok (.iload_n 1, 1) := by decide +kernel
theorem d_MessageCoderModel_drafting_79 : decode prog_14_method_111_code 79 = .ok (.iconst 1, 1) := by decide +kernel
theorem d_MessageCoderModel_drafting_80 : decode prog_14_method_111_code 80 = .ok (.iadd, 1) := by decide +kernel
theorem d_MessageCoderModel_drafting_81 : decode prog_14_method_111_code 81 = .ok (.iaload, 1) := by decide +kernel
theorem d_MessageCoderModel_drafting_82 : decode prog_14_method_111_code 82 = .ok (.isub, 1) := by decide +kernel
theorem d_MessageCoderModel_drafting_83 : decode prog_14_method_111_code 83 = .ok (.iastore, 1) := by decide +kernel
theorem d_MessageCoderModel_drafting_84 : decode prog_14_method_111_code 84 = .ok (.return_, 1) := by decide +kernel
set_option maxHeartbeats 4000000 in
set_option maxRecDepth 20000 in
theorem c_MessageCoderModel_drafting {P : xP} {F : xF} {z : Nat} {m : Nat} {th : Nat} {ch : Nat} {sv : Nat} {rs : Int32} {bm : Nat} {dm : Nat} {lz : Nat} {ty : Nat} {ea : Int32} {fa : Int32} {cn : Nat} {ip : Nat → Nat} {h : Nat} {e : Nat} {r : Nat} {cs : Nat → Nat} (o0 : F (m) = some (.inl (10, [.int (nI (th)), .ref (m + 1), .int (nI (ch)), .int (nI (sv)), .int rs, .ref (m + 2), .ref (m + 3), .ref (m + 4), .ref (m + 5), .ref (m + 6), .int (nI (bm)), .ref (m + 7), .int (nI (dm)), .ref (m + 8), .ref (m + 9), .int (nI (lz)), .ref (m + 10), .int (nI (ty)), .int (nI (h)), .int (eI (e)), .int ea, .int fa, .ref (m + 11), .int (nI (cn))]))) (hi : F (m + 10) = some (.inr (1, 60, fun b9 => .int (nI (ip b9))))) (hcm : F (m + 11) = some (.inr (0, 183, fun b9 => .int (nI (cs b9))))) (hs : ∀ j, j < ty → ip j < 65536) (hty : ty ≤ 60) (hq : qB ty (h, e)) (hr : r + 2 < 183) : xM P xy_MessageCoderModel_drafting [.ref m, .int (nI (r))] F (z) 0 0 (fun r9 F9 z9 => ∃ h1 : Nat, ∃ e1 : Nat, ∃ cs1 : Nat → Nat, r9 = none ∧ z9 = z ∧ F9 (m) = some (.inl (10, [.int (nI (th)), .ref (m + 1), .int (nI (ch)), .int (nI (sv)), .int rs, .ref (m + 2), .ref (m + 3), .ref (m + 4), .ref (m + 5), .ref (m + 6), .int (nI (bm)), .ref (m + 7), .int (nI (dm)), .ref (m + 8), .ref (m + 9), .int (nI (lz)), .ref (m + 10), .int (nI (ty)), .int (nI (h1)), .int (eI (e1)), .int ea, .int fa, .ref (m + 11), .int (nI (cn))])) ∧ F9 (m + 10) = some (.inr (1, 60, fun b9 => .int (nI (ip b9)))) ∧ F9 (m + 11) = some (.inr (0, 183, fun b9 => .int (nI (cs1 b9)))) ∧ (dfQ ty ip (h, e) = (h1, e1)) ∧ (e1 = 0 → cs1 (r + 1) = (dfP ty ip (h, e)).1 ∧ cs1 (r + 2) = h1 - (dfP ty ip (h, e)).1 ∧ (dfP ty ip (h, e)).1 < h1) ∧ (∀ q, q ≠ r + 1 → q ≠ r + 2 → cs1 q = cs q) ∧ (qB ty (h1, e1)) ∧ (∀ a9 : Nat, (a9 < m ∨ m + 1 ≤ a9) → (a9 < m + 11 ∨ m + 11 + 1 ≤ a9) → F9 a9 = F a9)) := by
  refine xM_v rfl (Nat.le_of_ble_eq_true rfl) (L0 := [some (.ref m), some (.int (nI (r))), none]) rfl rfl fun Θ hC hin hret => ?_
  have hag : ∀ a9 : Nat, (a9 < m ∨ m + 1 ≤ a9) → (a9 < m + 11 ∨ m + 11 + 1 ≤ a9) → F a9 = F a9 := fun a9 _ _ => rfl
  refine x_aload_n hC d_MessageCoderModel_drafting_0 rfl rfl ?_
  refine x_bipush hC d_MessageCoderModel_drafting_1 (v := nI 97) (by decide) ?_
  refine x_bipush hC d_MessageCoderModel_drafting_3 (v := nI 102) (by decide) ?_
  refine x_bipush hC d_MessageCoderModel_drafting_5 (v := nI 116) (by decide) ?_
  refine x_callV hC kv_MessageCoderModel_251 (c_MessageCoderModel_letters (o0 := o0) (hi := hi) (hs := hs) (hty := hty) (hq := hq) (h1c := by omega) (h2c := by omega) (h3c := by omega)) o0 rfl rfl (by decide) rfl rfl rfl (Nat.le_of_ble_eq_true rfl) (by decide) d_MessageCoderModel_drafting_7 (fun r9 F9 z9 hp9 => ?_)
  obtain ⟨h1_7, e1_7, rfl, h9c, j0, j1, pk_7, hag9⟩ := hp9
  rw [h9c]
  clear h9c z9
  generalize F9 = F1 at *
  have hcm : F1 (m + 11) = some (.inr (0, 183, fun b9 => .int (nI (cs b9)))) := (hag9 _ (by omega)).trans hcm
  have o0 : F1 (m) = some (.inl (10, [.int (nI (th)), .ref (m + 1), .int (nI (ch)), .int (nI (sv)), .int rs, .ref (m + 2), .ref (m + 3), .ref (m + 4), .ref (m + 5), .ref (m + 6), .int (nI (bm)), .ref (m + 7), .int (nI (dm)), .ref (m + 8), .ref (m + 9), .int (nI (lz)), .ref (m + 10), .int (nI (ty)), .int (nI (h1_7)), .int (eI (e1_7)), .int ea, .int fa, .ref (m + 11), .int (nI (cn))])) := j0
  have hi : F1 (m + 10) = some (.inr (1, 60, fun b9 => .int (nI (ip b9)))) := j1
  have hag : ∀ a9 : Nat, (a9 < m ∨ m + 1 ≤ a9) → (a9 < m + 11 ∨ m + 11 + 1 ≤ a9) → F1 a9 = F a9 := fun a9 q0 q1 => (hag9 a9 (by omega)).trans (hag a9 q0 q1)
  have hg_7 := hag9
  clear hag9
  have hq_7 : qB ty (h1_7, e1_7) := by rw [← pk_7]; exact nd_B (nd_B (nd_B hq))
  refine x_aload_n hC d_MessageCoderModel_drafting_10 rfl rfl ?_
  refine x_bipush hC d_MessageCoderModel_drafting_11 (v := nI 32) (by decide) ?_
  refine x_callV hC kv_MessageCoderModel_248 (c_MessageCoderModel_needs (o0 := o0) (hi := hi) (hs := hs) (hty := hty) (hq := hq_7) (hc := by omega)) o0 rfl rfl (by decide) rfl rfl rfl (Nat.le_of_ble_eq_true rfl) (by decide) d_MessageCoderModel_drafting_13 (fun r9 F9 z9 hp9 => ?_)
  obtain ⟨h1_11, e1_11, rfl, h9c, j0, j1, pk_13, hag9⟩ := hp9
  rw [h9c]
  clear h9c z9
  generalize F9 = F2 at *
  have hcm : F2 (m + 11) = some (.inr (0, 183, fun b9 => .int (nI (cs b9)))) := (hag9 _ (by omega)).trans hcm
  have o0 : F2 (m) = some (.inl (10, [.int (nI (th)), .ref (m + 1), .int (nI (ch)), .int (nI (sv)), .int rs, .ref (m + 2), .ref (m + 3), .ref (m + 4), .ref (m + 5), .ref (m + 6), .int (nI (bm)), .ref (m + 7), .int (nI (dm)), .ref (m + 8), .ref (m + 9), .int (nI (lz)), .ref (m + 10), .int (nI (ty)), .int (nI (h1_11)), .int (eI (e1_11)), .int ea, .int fa, .ref (m + 11), .int (nI (cn))])) := j0
  have hi : F2 (m + 10) = some (.inr (1, 60, fun b9 => .int (nI (ip b9)))) := j1
  have hag : ∀ a9 : Nat, (a9 < m ∨ m + 1 ≤ a9) → (a9 < m + 11 ∨ m + 11 + 1 ≤ a9) → F2 a9 = F a9 := fun a9 q0 q1 => (hag9 a9 (by omega)).trans (hag a9 q0 q1)
  have hg_13 := hag9
  clear hag9
  have hq_11 : qB ty (h1_11, e1_11) := by rw [← pk_13]; exact nd_B hq_7
  have hdp : dfP ty ip (h, e) = (h1_11, e1_11) := by unfold dfP; rw [pk_7]; exact pk_13
  have hl1 : h1_11 ≤ ty := hq_11.1
  have hl2 : e1_11 ≤ ty + 1 := hq_11.2
  refine x_aload_n hC d_MessageCoderModel_drafting_16 rfl rfl ?_
  refine x_getf hC kf_MessageCoderModel_48 o0 rfl d_MessageCoderModel_drafting_17 ?_
  refine x_iload_n hC d_MessageCoderModel_drafting_20 rfl rfl ?_
  refine x_iconst hC d_MessageCoderModel_drafting_21 (v := nI 1) (by decide) ?_
  refine x_iadd hC d_MessageCoderModel_drafting_22 (v := (nI (r + 1))) (x_addN (by omega)) ?_
  refine x_aload_n hC d_MessageCoderModel_drafting_23 rfl rfl ?_
  refine x_getf hC kf_MessageCoderModel_239 o0 rfl d_MessageCoderModel_drafting_24 ?_
  refine x_iast hC hcm (j := r + 1) ⟨rfl, by omega, by omega⟩ d_MessageCoderModel_drafting_27 (g1 := fun b9 => nI (updN cs (r + 1) (h1_11) b9)) (x_updN _ _ _) ?_
  generalize eg1 : updN cs (r + 1) (h1_11) = g1
  generalize e4 : xup F2 (m + 11) (.inr (0, 183, fun b9 => .int (nI (g1 b9)))) = F4
  have hcm : F4 (m + 11) = some (.inr (0, 183, fun b9 => .int (nI (g1 b9)))) := by rw [← e4]; exact xup_eq
  have o0 : F4 (m) = some (.inl (10, [.int (nI (th)), .ref (m + 1), .int (nI (ch)), .int (nI (sv)), .int rs, .ref (m + 2), .ref (m + 3), .ref (m + 4), .ref (m + 5), .ref (m + 6), .int (nI (bm)), .ref (m + 7), .int (nI (dm)), .ref (m + 8), .ref (m + 9), .int (nI (lz)), .ref (m + 10), .int (nI (ty)), .int (nI (h1_11)), .int (eI (e1_11)), .int ea, .int fa, .ref (m + 11), .int (nI (cn))])) := by rw [← e4]; exact (xup_ne (by omega)).trans o0
  have hi : F4 (m + 10) = some (.inr (1, 60, fun b9 => .int (nI (ip b9)))) := by rw [← e4]; exact (xup_ne (by omega)).trans hi
  have hag : ∀ a9 : Nat, (a9 < m ∨ m + 1 ≤ a9) → (a9 < m + 11 ∨ m + 11 + 1 ≤ a9) → F4 a9 = F a9 := fun a9 q0 q1 => by rw [← e4]; exact (xup_ne (by omega)).trans (hag a9 q0 q1)
  refine x_aload_n hC d_MessageCoderModel_drafting_28 rfl rfl ?_
  refine x_callV hC kv_MessageCoderModel_255 (c_MessageCoderModel_needsSymbol (o0 := o0) (hi := hi) (hs := hs) (hty := hty) (hq := hq_11)) o0 rfl rfl (by decide) rfl rfl rfl (Nat.le_of_ble_eq_true rfl) (by decide) d_MessageCoderModel_drafting_29 (fun r9 F9 z9 hp9 => ?_)
  obtain ⟨h1_29, e1_29, v1_29, rfl, h9c, j0, j1, pk_29, hag9⟩ := hp9
  rw [h9c]
  clear h9c z9
  generalize F9 = F5 at *
  have hcm : F5 (m + 11) = some (.inr (0, 183, fun b9 => .int (nI (g1 b9)))) := (hag9 _ (by omega)).trans hcm
  have o0 : F5 (m) = some (.inl (10, [.int (nI (th)), .ref (m + 1), .int (nI (ch)), .int (nI (sv)), .int rs, .ref (m + 2), .ref (m + 3), .ref (m + 4), .ref (m + 5), .ref (m + 6), .int (nI (bm)), .ref (m + 7), .int (nI (dm)), .ref (m + 8), .ref (m + 9), .int (nI (lz)), .ref (m + 10), .int (nI (ty)), .int (nI (h1_29)), .int (eI (e1_29)), .int ea, .int fa, .ref (m + 11), .int (nI (cn))])) := j0
  have hi : F5 (m + 10) = some (.inr (1, 60, fun b9 => .int (nI (ip b9)))) := j1
  have hag : ∀ a9 : Nat, (a9 < m ∨ m + 1 ≤ a9) → (a9 < m + 11 ∨ m + 11 + 1 ≤ a9) → F5 a9 = F a9 := fun a9 q0 q1 => (hag9 a9 (by omega)).trans (hag a9 q0 q1)
  have hg_29 := hag9
  clear hag9
  have hq_29 : qB ty (h1_29, e1_29) ∧ v1_29 < 105 := by have h9 := syQ_B (s := ip) hq_11; rw [pk_29] at h9; exact h9
  have hl3 : h1_29 ≤ ty := hq_29.1.1
  have hl4 : e1_29 ≤ ty + 1 := hq_29.1.2
  have hl5 : h1_11 ≤ h1_29 := by have h8 := pk_29; unfold syQ at h8; split at h8; (split at h8; (have h7 : h1_11 + 1 = h1_29 := congrArg (fun q => q.1.1) h8; omega); (have h7 : h1_11 = h1_29 := congrArg (fun q => q.1.1) h8; omega)); (have h7 : h1_11 = h1_29 := congrArg (fun q => q.1.1) h8; omega)
  have hke0 : e1_29 = 0 → pEnd ty ip h1_11 (h1_29 - h1_11) = h1_29 ∧ h1_11 < h1_29 := fun hz => by have h8 := pk_29; unfold syQ at h8; by_cases h9 : e1_11 = 0; (rw [if_pos h9] at h8; by_cases h7 : h1_11 < ty ∧ isSy (ip h1_11); (rw [if_pos h7] at h8; have h6 : h1_11 + 1 = h1_29 := congrArg (fun q => q.1.1) h8; rw [← h6, show h1_11 + 1 - h1_11 = 1 by omega]; exact ⟨pEnd_1 h7, by omega⟩); (rw [if_neg h7] at h8; have h6 : h1_11 + 1 = e1_29 := congrArg (fun q => q.1.2) h8; omega)); (rw [if_neg h9] at h8; exact absurd ((congrArg (fun q => q.1.2) h8).trans hz) h9)
  refine x_istore_n hC d_MessageCoderModel_drafting_32 rfl (Nat.le_of_ble_eq_true rfl) (L1 := [some (.ref m), some (.int (nI (r))), some (.int (nI (v1_29)))]) rfl ?_
  have loop_33 : ∀ (m9 : Nat) (Fh33 : xF) (hx : Nat), (Fh33 (m) = some (.inl (10, [.int (nI (th)), .ref (m + 1), .int (nI (ch)), .int (nI (sv)), .int rs, .ref (m + 2), .ref (m + 3), .ref (m + 4), .ref (m + 5), .ref (m + 6), .int (nI (bm)), .ref (m + 7), .int (nI (dm)), .ref (m + 8), .ref (m + 9), .int (nI (lz)), .ref (m + 10), .int (nI (ty)), .int (nI (hx)), .int (eI (e1_29)), .int ea, .int fa, .ref (m + 11), .int (nI (cn))]))) → (Fh33 (m + 10) = some (.inr (1, 60, fun b9 => .int (nI (ip b9))))) → (Fh33 (m + 11) = some (.inr (0, 183, fun b9 => .int (nI (g1 b9))))) → (∀ a9 : Nat, (a9 < m ∨ m + 1 ≤ a9) → (a9 < m + 11 ∨ m + 11 + 1 ≤ a9) → Fh33 a9 = F a9) → (hx ≤ ty) → (h1_11 ≤ hx) → (¬ e1_29 = 0 → hx = h1_29) → (e1_29 = 0 → pEnd ty ip h1_11 (hx - h1_11) = hx ∧ h1_11 < hx) → (ty - hx < m9) → xX P Θ 33 [some (.ref m), some (.int (nI (r))), some (.int (nI (v1_29)))] [] Fh33 (z) 0 0 := by
    intro m9
    induction m9 with
    | zero => intros; omega
    | succ m9 ih_33 =>
      intro Fh33 hx o0 hi hcm hag hxl hxg kx ke hm_33
      refine x_aload_n hC d_MessageCoderModel_drafting_33 rfl rfl ?_
      refine x_getf hC kf_MessageCoderModel_242 o0 rfl d_MessageCoderModel_drafting_34 ?_
      refine x_if_ge hC d_MessageCoderModel_drafting_37 (tgt := 63) (by decide) (fun c_37 => ?_) (fun c_37 => ?_)
      · skip
        refine x_aload_n hC d_MessageCoderModel_drafting_63 rfl rfl ?_
        refine x_getf hC kf_MessageCoderModel_48 o0 rfl d_MessageCoderModel_drafting_64 ?_
        refine x_iload_n hC d_MessageCoderModel_drafting_67 rfl rfl ?_
        refine x_iconst hC d_MessageCoderModel_drafting_68 (v := nI 2) (by decide) ?_
        refine x_iadd hC d_MessageCoderModel_drafting_69 (v := (nI (r + 2))) (x_addN (by omega)) ?_
        refine x_aload_n hC d_MessageCoderModel_drafting_70 rfl rfl ?_
        refine x_getf hC kf_MessageCoderModel_239 o0 rfl d_MessageCoderModel_drafting_71 ?_
        refine x_aload_n hC d_MessageCoderModel_drafting_74 rfl rfl ?_
        refine x_getf hC kf_MessageCoderModel_48 o0 rfl d_MessageCoderModel_drafting_75 ?_
        refine x_iload_n hC d_MessageCoderModel_drafting_78 rfl rfl ?_
        refine x_iconst hC d_MessageCoderModel_drafting_79 (v := nI 1) (by decide) ?_
        refine x_iadd hC d_MessageCoderModel_drafting_80 (v := (nI (r + 1))) (x_addN (by omega)) ?_
        refine x_iald hC hcm (j := r + 1) ⟨rfl, by omega, by omega⟩ (x := nI (h1_11)) (congrArg nI (by rw [← eg1]; exact updN_at rfl)) d_MessageCoderModel_drafting_81 ?_
        refine x_isub hC d_MessageCoderModel_drafting_82 (v := (nI ((hx) - (h1_11)))) (pk_sub (by omega)) ?_
        refine x_iast hC hcm (j := r + 2) ⟨rfl, by omega, by omega⟩ d_MessageCoderModel_drafting_83 (g1 := fun b9 => nI (updN g1 (r + 2) ((hx) - (h1_11)) b9)) (x_updN _ _ _) ?_
        generalize eg2 : updN g1 (r + 2) ((hx) - (h1_11)) = g2
        generalize e7 : xup Fh33 (m + 11) (.inr (0, 183, fun b9 => .int (nI (g2 b9)))) = F7
        have o0 : F7 (m) = some (.inl (10, [.int (nI (th)), .ref (m + 1), .int (nI (ch)), .int (nI (sv)), .int rs, .ref (m + 2), .ref (m + 3), .ref (m + 4), .ref (m + 5), .ref (m + 6), .int (nI (bm)), .ref (m + 7), .int (nI (dm)), .ref (m + 8), .ref (m + 9), .int (nI (lz)), .ref (m + 10), .int (nI (ty)), .int (nI (hx)), .int (eI (e1_29)), .int ea, .int fa, .ref (m + 11), .int (nI (cn))])) := by rw [← e7]; exact (xup_ne (by omega)).trans o0
        have hi : F7 (m + 10) = some (.inr (1, 60, fun b9 => .int (nI (ip b9)))) := by rw [← e7]; exact (xup_ne (by omega)).trans hi
        have hcm : F7 (m + 11) = some (.inr (0, 183, fun b9 => .int (nI (g2 b9)))) := by rw [← e7]; exact xup_eq
        have hag : ∀ a9 : Nat, (a9 < m ∨ m + 1 ≤ a9) → (a9 < m + 11 ∨ m + 11 + 1 ≤ a9) → F7 a9 = F a9 := fun a9 q0 q1 => by rw [← e7]; exact (xup_ne (by omega)).trans (hag a9 q0 q1)
        refine hret _ _ _ _ _ _ d_MessageCoderModel_drafting_84 (by decide) (by decide) ?_
        have hcs : ∀ q, q ≠ r + 1 → q ≠ r + 2 → g2 q = cs q := fun q h8 h9 => by rw [← eg2, updN_ne h9, ← eg1, updN_ne h8]
        have hc1 : g2 (r + 1) = h1_11 := by rw [← eg2, updN_ne (by omega), ← eg1]; exact updN_at rfl
        have hc2 : g2 (r + 2) = hx - h1_11 := by rw [← eg2]; exact updN_at rfl
        have hne : ¬ e1_29 = 0 := fun h9 => k2_nlt c_37 ((eI_lt (by omega)).mpr h9)
        have hxe := kx hne
        have hdq : dfQ ty ip (h, e) = (h1_29, e1_29) := by unfold dfQ; rw [hdp]; rcases Decidable.em (e1_11 = 0) with h9 | h9; (rw [if_pos h9]; have h8 := pk_29; unfold syQ at h8; rw [if_pos h9] at h8; by_cases h7 : h1_11 < ty ∧ isSy (ip h1_11); (rw [if_pos h7] at h8; exact absurd (congrArg (fun q => q.1.2) h8).symm hne); (rw [if_neg h7] at h8; have h6 : pEnd ty ip h1_11 ty = h1_11 := pEnd_no (k := 0) rfl h7 (Nat.zero_le _); rw [if_neg (by show ¬ h1_11 < pEnd ty ip h1_11 ty; rw [h6]; exact Nat.lt_irrefl _)]; exact congrArg Prod.fst h8)); (rw [if_neg h9]; have h8 := pk_29; unfold syQ at h8; rw [if_neg h9] at h8; exact congrArg Prod.fst h8)
        rw [hxe] at o0
        exact ⟨h1_29, e1_29, g2, rfl, rfl, o0, hi, hcm, hdq, fun h9 => absurd h9 hne, hcs, hq_29.1, hag⟩
      · skip
        refine x_aload_n hC d_MessageCoderModel_drafting_40 rfl rfl ?_
        refine x_callV hC kv_MessageCoderModel_245 (c_MessageCoderModel_sign (o0 := o0) (hi := hi) (hs := hs) (hty := hty) (hq := ⟨hxl, hl4⟩)) o0 rfl rfl (by decide) rfl rfl rfl (Nat.le_of_ble_eq_true rfl) (by decide) d_MessageCoderModel_drafting_41 (fun r9 F9 z9 hp9 => ?_)
        obtain ⟨rfl, h9b, h9c⟩ := hp9
        rw [h9b, h9c]
        clear h9b h9c F9 z9
        refine x_callS hC ks_MessageCoderModel_118 (c_MessageCoderModel_isSymbol ) (by decide) rfl rfl rfl (Nat.le_of_ble_eq_true rfl) (by decide) d_MessageCoderModel_drafting_44 (fun r9 F9 z9 hp9 => ?_)
        obtain ⟨rfl, h9b, h9c⟩ := hp9
        rw [h9b, h9c]
        clear h9b h9c F9 z9
        refine x_ifB_eq hC d_MessageCoderModel_drafting_47 (tgt := 63) (by decide) (fun c_47 => ?_) (fun c_47 => ?_)
        · skip
          refine x_aload_n hC d_MessageCoderModel_drafting_63 rfl rfl ?_
          refine x_getf hC kf_MessageCoderModel_48 o0 rfl d_MessageCoderModel_drafting_64 ?_
          refine x_iload_n hC d_MessageCoderModel_drafting_67 rfl rfl ?_
          refine x_iconst hC d_MessageCoderModel_drafting_68 (v := nI 2) (by decide) ?_
          refine x_iadd hC d_MessageCoderModel_drafting_69 (v := (nI (r + 2))) (x_addN (by omega)) ?_
          refine x_aload_n hC d_MessageCoderModel_drafting_70 rfl rfl ?_
          refine x_getf hC kf_MessageCoderModel_239 o0 rfl d_MessageCoderModel_drafting_71 ?_
          refine x_aload_n hC d_MessageCoderModel_drafting_74 rfl rfl ?_
          refine x_getf hC kf_MessageCoderModel_48 o0 rfl d_MessageCoderModel_drafting_75 ?_
          refine x_iload_n hC d_MessageCoderModel_drafting_78 rfl rfl ?_
          refine x_iconst hC d_MessageCoderModel_drafting_79 (v := nI 1) (by decide) ?_
          refine x_iadd hC d_MessageCoderModel_drafting_80 (v := (nI (r + 1))) (x_addN (by omega)) ?_
          refine x_iald hC hcm (j := r + 1) ⟨rfl, by omega, by omega⟩ (x := nI (h1_11)) (congrArg nI (by rw [← eg1]; exact updN_at rfl)) d_MessageCoderModel_drafting_81 ?_
          refine x_isub hC d_MessageCoderModel_drafting_82 (v := (nI ((hx) - (h1_11)))) (pk_sub (by omega)) ?_
          refine x_iast hC hcm (j := r + 2) ⟨rfl, by omega, by omega⟩ d_MessageCoderModel_drafting_83 (g1 := fun b9 => nI (updN g1 (r + 2) ((hx) - (h1_11)) b9)) (x_updN _ _ _) ?_
          generalize eg2 : updN g1 (r + 2) ((hx) - (h1_11)) = g2
          generalize e9 : xup Fh33 (m + 11) (.inr (0, 183, fun b9 => .int (nI (g2 b9)))) = F9
          have o0 : F9 (m) = some (.inl (10, [.int (nI (th)), .ref (m + 1), .int (nI (ch)), .int (nI (sv)), .int rs, .ref (m + 2), .ref (m + 3), .ref (m + 4), .ref (m + 5), .ref (m + 6), .int (nI (bm)), .ref (m + 7), .int (nI (dm)), .ref (m + 8), .ref (m + 9), .int (nI (lz)), .ref (m + 10), .int (nI (ty)), .int (nI (hx)), .int (eI (e1_29)), .int ea, .int fa, .ref (m + 11), .int (nI (cn))])) := by rw [← e9]; exact (xup_ne (by omega)).trans o0
          have hi : F9 (m + 10) = some (.inr (1, 60, fun b9 => .int (nI (ip b9)))) := by rw [← e9]; exact (xup_ne (by omega)).trans hi
          have hcm : F9 (m + 11) = some (.inr (0, 183, fun b9 => .int (nI (g2 b9)))) := by rw [← e9]; exact xup_eq
          have hag : ∀ a9 : Nat, (a9 < m ∨ m + 1 ≤ a9) → (a9 < m + 11 ∨ m + 11 + 1 ≤ a9) → F9 a9 = F a9 := fun a9 q0 q1 => by rw [← e9]; exact (xup_ne (by omega)).trans (hag a9 q0 q1)
          refine hret _ _ _ _ _ _ d_MessageCoderModel_drafting_84 (by decide) (by decide) ?_
          have hcs : ∀ q, q ≠ r + 1 → q ≠ r + 2 → g2 q = cs q := fun q h8 h9 => by rw [← eg2, updN_ne h9, ← eg1, updN_ne h8]
          have hc1 : g2 (r + 1) = h1_11 := by rw [← eg2, updN_ne (by omega), ← eg1]; exact updN_at rfl
          have hc2 : g2 (r + 2) = hx - h1_11 := by rw [← eg2]; exact updN_at rfl
          have hz : e1_29 = 0 := (eI_lt (by omega)).mp (Int32.not_le.mp c_37)
          have hns : ¬ (hx < ty ∧ isSy (ip hx)) := fun h9 => c_47 ((sg_in hs (by decide) (by decide)).mpr ⟨h9.1, h9.2.1, Nat.le_of_lt_succ h9.2.2⟩)
          obtain ⟨hke, hkl⟩ := ke hz
          have hpe : pEnd ty ip h1_11 ty = hx := pEnd_no hke hns (by omega)
          have hz1 : e1_11 = 0 := by have h8 := pk_29; unfold syQ at h8; by_cases h9 : e1_11 = 0; exact h9; (rw [if_neg h9] at h8; exact absurd ((congrArg (fun q => q.1.2) h8).trans hz) h9)
          have hdq : dfQ ty ip (h, e) = (hx, e1_29) := by unfold dfQ; rw [hdp, if_pos hz1, hz]; show (if h1_11 < pEnd ty ip h1_11 ty then (pEnd ty ip h1_11 ty, 0) else (h1_11, h1_11 + 1)) = (hx, 0); rw [hpe, if_pos hkl]
          exact ⟨hx, e1_29, g2, rfl, rfl, o0, hi, hcm, hdq, fun _ => by rw [hdp]; exact ⟨hc1, hc2, hkl⟩, hcs, ⟨hxl, hq_29.1.2⟩, hag⟩
        · skip
          have hz : e1_29 = 0 := (eI_lt (by omega)).mp (Int32.not_le.mp c_37)
          have hsz := (sg_in hs (by decide) (by decide)).mp c_47
          have hss : hx < ty ∧ isSy (ip hx) := ⟨hsz.1, hsz.2.1, by omega⟩
          refine x_aload_n hC d_MessageCoderModel_drafting_50 rfl rfl ?_
          refine x_dup hC d_MessageCoderModel_drafting_51 rfl ?_
          refine x_getf hC kf_MessageCoderModel_239 o0 rfl d_MessageCoderModel_drafting_52 ?_
          refine x_iconst hC d_MessageCoderModel_drafting_55 (v := nI 1) (by decide) ?_
          refine x_iadd hC d_MessageCoderModel_drafting_56 (v := (nI (hx + 1))) (x_addN (by omega)) ?_
          refine x_putf hC kf_MessageCoderModel_239 o0 (Nat.le_of_ble_eq_true rfl) rfl rfl d_MessageCoderModel_drafting_57 (fs1 := [.int (nI (th)), .ref (m + 1), .int (nI (ch)), .int (nI (sv)), .int rs, .ref (m + 2), .ref (m + 3), .ref (m + 4), .ref (m + 5), .ref (m + 6), .int (nI (bm)), .ref (m + 7), .int (nI (dm)), .ref (m + 8), .ref (m + 9), .int (nI (lz)), .ref (m + 10), .int (nI (ty)), .int (nI (hx + 1)), .int (eI (e1_29)), .int ea, .int fa, .ref (m + 11), .int (nI (cn))]) rfl ?_
          generalize e10 : xup Fh33 (m) (.inl (10, [.int (nI (th)), .ref (m + 1), .int (nI (ch)), .int (nI (sv)), .int rs, .ref (m + 2), .ref (m + 3), .ref (m + 4), .ref (m + 5), .ref (m + 6), .int (nI (bm)), .ref (m + 7), .int (nI (dm)), .ref (m + 8), .ref (m + 9), .int (nI (lz)), .ref (m + 10), .int (nI (ty)), .int (nI (hx + 1)), .int (eI (e1_29)), .int ea, .int fa, .ref (m + 11), .int (nI (cn))])) = F10
          have o0 : F10 (m) = some (.inl (10, [.int (nI (th)), .ref (m + 1), .int (nI (ch)), .int (nI (sv)), .int rs, .ref (m + 2), .ref (m + 3), .ref (m + 4), .ref (m + 5), .ref (m + 6), .int (nI (bm)), .ref (m + 7), .int (nI (dm)), .ref (m + 8), .ref (m + 9), .int (nI (lz)), .ref (m + 10), .int (nI (ty)), .int (nI (hx + 1)), .int (eI (e1_29)), .int ea, .int fa, .ref (m + 11), .int (nI (cn))])) := by rw [← e10]; exact xup_eq
          have hi : F10 (m + 10) = some (.inr (1, 60, fun b9 => .int (nI (ip b9)))) := by rw [← e10]; exact (xup_ne (by omega)).trans hi
          have hcm : F10 (m + 11) = some (.inr (0, 183, fun b9 => .int (nI (g1 b9)))) := by rw [← e10]; exact (xup_ne (by omega)).trans hcm
          have hag : ∀ a9 : Nat, (a9 < m ∨ m + 1 ≤ a9) → (a9 < m + 11 ∨ m + 11 + 1 ≤ a9) → F10 a9 = F a9 := fun a9 q0 q1 => by rw [← e10]; exact (xup_ne (by omega)).trans (hag a9 q0 q1)
          refine x_goto hC d_MessageCoderModel_drafting_60 (tgt := 33) (by decide) ?_
          exact ih_33 F10 (hx + 1) o0 hi hcm hag (by omega) (by omega) (fun h9 => absurd hz h9) (fun _ => ⟨by rw [show hx + 1 - h1_11 = hx - h1_11 + 1 by omega]; exact pEnd_hit (ke hz).1 hss, by omega⟩) (by omega)
  exact loop_33 (ty - h1_29 + 1) F5 (h1_29) o0 hi hcm hag (hl3) (hl5) (fun _ => rfl) (hke0) (by omega)

theorem d_MessageCoderModel_draftOrDrop_0 : decode prog_14_method_112_code 0 = .ok (.aload_n 0, 1) := by decide +kernel
theorem d_MessageCoderModel_draftOrDrop_1 : decode prog_14_method_112_code 1 = .ok (.bipush 114, 2) := by decide +kernel
theorem d_MessageCoderModel_draftOrDrop_3 : decode prog_14_method_112_code 3 = .ok (.invokevirtual 248, 3) := by decide +kernel
theorem d_MessageCoderModel_draftOrDrop_6 : decode prog_14_method_112_code 6 = .ok (.aload_n 0, 1) := by decide +kernel
theorem d_MessageCoderModel_draftOrDrop_7 : decode prog_14_method_112_code 7 = .ok (.getfield 242, 3) := by decide +kernel
theorem d_MessageCoderModel_draftOrDrop_10 : decode prog_14_method_112_code 10 = .ok (.ifCond .ge 18, 3) := by decide +kernel
theorem d_MessageCoderModel_draftOrDrop_13 : decode prog_14_method_112_code 13 = .ok (.aload_n 0, 1) := by decide +kernel
theorem d_MessageCoderModel_draftOrDrop_14 : decode prog_14_method_112_code 14 = .ok (.invokevirtual 245, 3) := by decide +kernel
theorem d_MessageCoderModel_draftOrDrop_17 : decode prog_14_method_112_code 17 = .ok (.bipush 97, 2) := by decide +kernel
theorem d_MessageCoderModel_draftOrDrop_19 : decode prog_14_method_112_code 19 = .ok (.if_icmp .ne 9, 3) := by decide +kernel
theorem d_MessageCoderModel_draftOrDrop_22 : decode prog_14_method_112_code 22 = .ok (.aload_n 0, 1) := by decide +kernel
theorem d_MessageCoderModel_draftOrDrop_23 : decode prog_14_method_112_code 23 = .ok (.iload_n 1, 1) := by decide +kernel
theorem d_MessageCoderModel_draftOrDrop_24 : decode prog_14_method_112_code 24 = .ok (.invokevirtual 258, 3) := by decide +kernel
theorem d_MessageCoderModel_draftOrDrop_27 : decode prog_14_method_112_code 27 = .ok (.return_, 1) := by decide +kernel
theorem d_MessageCoderModel_draftOrDrop_28 : decode prog_14_method_112_code 28 = .ok (.aload_n 0, 1) := by decide +kernel
theorem d_MessageCoderModel_draftOrDrop_29 : decode prog_14_method_112_code 29 = .ok (.bipush 111, 2) := by decide +kernel
theorem d_MessageCoderModel_draftOrDrop_31 : decode prog_14_method_112_code 31 = .ok (.invokevirtual 248, 3) := by decide +kernel
theorem d_MessageCoderModel_draftOrDrop_34 : decode prog_14_method_112_code 34 = .ok (.aload_n 0, 1) := by decide +kernel
theorem d_MessageCoderModel_draftOrDrop_35 : decode prog_14_method_112_code 35 = .ok (.bipush 112, 2) := by decide +kernel
theorem d_MessageCoderModel_draftOrDrop_37 : decode prog_14_method_112_code 37 = .ok (.invokevirtual 248, 3) := by decide +kernel
theorem d_MessageCoderModel_draftOrDrop_40 : decode prog_14_method_112_code 40 = .ok (.aload_n 0, 1) := by decide +kernel
theorem d_MessageCoderModel_draftOrDrop_41 : decode prog_14_method_112_code 41 = .ok (.getfield 48, 3) := by decide +kernel
theorem d_MessageCoderModel_draftOrDrop_44 : decode prog_14_method_112_code 44 = .ok (.iload_n 1, 1) := by decide +kernel
theorem d_MessageCoderModel_draftOrDrop_45 : decode prog_14_method_112_code 45 = .ok (.bipush 120, 2) := by decide +kernel
theorem d_MessageCoderModel_draftOrDrop_47 : decode prog_14_method_112_code 47 = .ok (.iastore, 1) := by decide +kernel
theorem d_MessageCoderModel_draftOrDrop_48 : decode prog_14_method_112_code 48 = .ok (.aload_n 0, 1) := by decide +kernel
theorem d_MessageCoderModel_draftOrDrop_49 : decode prog_14_method_112_code 49 = .ok (.getfield 48, 3) := by decide +kernel
theorem d_MessageCoderModel_draftOrDrop_52 : decode prog_14_method_112_code 52 = .ok (.iload_n 1, 1) := by decide +kernel
theorem d_MessageCoderModel_draftOrDrop_53 : decode prog_14_method_112_code 53 = .ok (.iconst 1, 1) := by decide +kernel
theorem d_MessageCoderModel_draftOrDrop_54 : decode prog_14_method_112_code 54 = .ok (.iadd, 1) := by decide +kernel
theorem d_MessageCoderModel_draftOrDrop_55 : decode prog_14_method_112_code 55 = .ok (.aload_n 0, 1) := by decide +kernel
theorem d_MessageCoderModel_draftOrDrop_56 : decode prog_14_method_112_code 56 = .ok (.bipush 32, 2) := by decide +kernel
theorem d_MessageCoderModel_draftOrDrop_58 : decode prog_14_method_112_code 58 = .ok (.iconst 3, 1) := by decide +kernel
theorem d_MessageCoderModel_draftOrDrop_59 : decode prog_14_method_112_code 59 = .ok (.invokevirtual 261, 3) := by decide +kernel
theorem d_MessageCoderModel_draftOrDrop_62 : decode prog_14_method_112_code 62 = .ok (.iastore, 1) := by decide +kernel
theorem d_MessageCoderModel_draftOrDrop_63 : decode prog_14_method_112_code 63 = .ok (.return_, 1) := by decide +kernel
set_option maxHeartbeats 4000000 in
set_option maxRecDepth 20000 in
theorem c_MessageCoderModel_draftOrDrop {P : xP} {F : xF} {z : Nat} {m : Nat} {th : Nat} {ch : Nat} {sv : Nat} {rs : Int32} {bm : Nat} {dm : Nat} {lz : Nat} {ty : Nat} {ea : Int32} {fa : Int32} {cn : Nat} {ip : Nat → Nat} {h : Nat} {e : Nat} {r : Nat} {cs : Nat → Nat} (o0 : F (m) = some (.inl (10, [.int (nI (th)), .ref (m + 1), .int (nI (ch)), .int (nI (sv)), .int rs, .ref (m + 2), .ref (m + 3), .ref (m + 4), .ref (m + 5), .ref (m + 6), .int (nI (bm)), .ref (m + 7), .int (nI (dm)), .ref (m + 8), .ref (m + 9), .int (nI (lz)), .ref (m + 10), .int (nI (ty)), .int (nI (h)), .int (eI (e)), .int ea, .int fa, .ref (m + 11), .int (nI (cn))]))) (hi : F (m + 10) = some (.inr (1, 60, fun b9 => .int (nI (ip b9))))) (hcm : F (m + 11) = some (.inr (0, 183, fun b9 => .int (nI (cs b9))))) (hs : ∀ j, j < ty → ip j < 65536) (hty : ty ≤ 60) (hq : qB ty (h, e)) (hr : r + 2 < 183) : xM P xy_MessageCoderModel_draftOrDrop [.ref m, .int (nI (r))] F (z) 0 0 (fun r9 F9 z9 => ∃ h1 : Nat, ∃ e1 : Nat, ∃ cs1 : Nat → Nat, r9 = none ∧ z9 = z ∧ F9 (m) = some (.inl (10, [.int (nI (th)), .ref (m + 1), .int (nI (ch)), .int (nI (sv)), .int rs, .ref (m + 2), .ref (m + 3), .ref (m + 4), .ref (m + 5), .ref (m + 6), .int (nI (bm)), .ref (m + 7), .int (nI (dm)), .ref (m + 8), .ref (m + 9), .int (nI (lz)), .ref (m + 10), .int (nI (ty)), .int (nI (h1)), .int (eI (e1)), .int ea, .int fa, .ref (m + 11), .int (nI (cn))])) ∧ F9 (m + 10) = some (.inr (1, 60, fun b9 => .int (nI (ip b9)))) ∧ F9 (m + 11) = some (.inr (0, 183, fun b9 => .int (nI (cs1 b9)))) ∧ ((ddQ ty ip (h, e)).2 = (h1, e1)) ∧ ((ddQ ty ip (h, e)).1 = true → dfQ ty ip (nd ty ip 114 (h, e)) = (h1, e1) ∧ cs1 r = cs r ∧ (e1 = 0 → cs1 (r + 1) = (dfP ty ip (nd ty ip 114 (h, e))).1 ∧ cs1 (r + 2) = h1 - (dfP ty ip (nd ty ip 114 (h, e))).1 ∧ (dfP ty ip (nd ty ip 114 (h, e))).1 < h1)) ∧ ((ddQ ty ip (h, e)).1 = false → bh ty ip 32 3 (nd ty ip 112 (nd ty ip 111 (nd ty ip 114 (h, e)))) = ((h1, e1), cs1 (r + 1)) ∧ cs1 r = 120 ∧ cs1 (r + 2) = cs (r + 2) ∧ cs1 (r + 1) < 1000) ∧ (∀ q, q ≠ r → q ≠ r + 1 → q ≠ r + 2 → cs1 q = cs q) ∧ (qB ty (h1, e1)) ∧ (∀ a9 : Nat, (a9 < m ∨ m + 1 ≤ a9) → (a9 < m + 11 ∨ m + 11 + 1 ≤ a9) → F9 a9 = F a9)) := by
  refine xM_v rfl (Nat.le_of_ble_eq_true rfl) (L0 := [some (.ref m), some (.int (nI (r)))]) rfl rfl fun Θ hC hin hret => ?_
  have hag : ∀ a9 : Nat, (a9 < m ∨ m + 1 ≤ a9) → (a9 < m + 11 ∨ m + 11 + 1 ≤ a9) → F a9 = F a9 := fun a9 _ _ => rfl
  refine x_aload_n hC d_MessageCoderModel_draftOrDrop_0 rfl rfl ?_
  refine x_bipush hC d_MessageCoderModel_draftOrDrop_1 (v := nI 114) (by decide) ?_
  refine x_callV hC kv_MessageCoderModel_248 (c_MessageCoderModel_needs (o0 := o0) (hi := hi) (hs := hs) (hty := hty) (hq := hq) (hc := by omega)) o0 rfl rfl (by decide) rfl rfl rfl (Nat.le_of_ble_eq_true rfl) (by decide) d_MessageCoderModel_draftOrDrop_3 (fun r9 F9 z9 hp9 => ?_)
  obtain ⟨h1_3, e1_3, rfl, h9c, j0, j1, pk_3, hag9⟩ := hp9
  rw [h9c]
  clear h9c z9
  generalize F9 = F1 at *
  have hcm : F1 (m + 11) = some (.inr (0, 183, fun b9 => .int (nI (cs b9)))) := (hag9 _ (by omega)).trans hcm
  have o0 : F1 (m) = some (.inl (10, [.int (nI (th)), .ref (m + 1), .int (nI (ch)), .int (nI (sv)), .int rs, .ref (m + 2), .ref (m + 3), .ref (m + 4), .ref (m + 5), .ref (m + 6), .int (nI (bm)), .ref (m + 7), .int (nI (dm)), .ref (m + 8), .ref (m + 9), .int (nI (lz)), .ref (m + 10), .int (nI (ty)), .int (nI (h1_3)), .int (eI (e1_3)), .int ea, .int fa, .ref (m + 11), .int (nI (cn))])) := j0
  have hi : F1 (m + 10) = some (.inr (1, 60, fun b9 => .int (nI (ip b9)))) := j1
  have hag : ∀ a9 : Nat, (a9 < m ∨ m + 1 ≤ a9) → (a9 < m + 11 ∨ m + 11 + 1 ≤ a9) → F1 a9 = F a9 := fun a9 q0 q1 => (hag9 a9 (by omega)).trans (hag a9 q0 q1)
  have hg_3 := hag9
  clear hag9
  have hq_3 : qB ty (h1_3, e1_3) := by rw [← pk_3]; exact nd_B hq
  have hl4 : e1_3 ≤ ty + 1 := hq_3.2
  have hl3 : h1_3 ≤ ty := hq_3.1
  refine x_aload_n hC d_MessageCoderModel_draftOrDrop_6 rfl rfl ?_
  refine x_getf hC kf_MessageCoderModel_242 o0 rfl d_MessageCoderModel_draftOrDrop_7 ?_
  refine x_if_ge hC d_MessageCoderModel_draftOrDrop_10 (tgt := 28) (by decide) (fun c_10 => ?_) (fun c_10 => ?_)
  · skip
    refine x_aload_n hC d_MessageCoderModel_draftOrDrop_28 rfl rfl ?_
    refine x_bipush hC d_MessageCoderModel_draftOrDrop_29 (v := nI 111) (by decide) ?_
    refine x_callV hC kv_MessageCoderModel_248 (c_MessageCoderModel_needs (o0 := o0) (hi := hi) (hs := hs) (hty := hty) (hq := hq_3) (hc := by omega)) o0 rfl rfl (by decide) rfl rfl rfl (Nat.le_of_ble_eq_true rfl) (by decide) d_MessageCoderModel_draftOrDrop_31 (fun r9 F9 z9 hp9 => ?_)
    obtain ⟨h1_31, e1_31, rfl, h9c, j0, j1, pk_31, hag9⟩ := hp9
    rw [h9c]
    clear h9c z9
    generalize F9 = F2 at *
    have hcm : F2 (m + 11) = some (.inr (0, 183, fun b9 => .int (nI (cs b9)))) := (hag9 _ (by omega)).trans hcm
    have o0 : F2 (m) = some (.inl (10, [.int (nI (th)), .ref (m + 1), .int (nI (ch)), .int (nI (sv)), .int rs, .ref (m + 2), .ref (m + 3), .ref (m + 4), .ref (m + 5), .ref (m + 6), .int (nI (bm)), .ref (m + 7), .int (nI (dm)), .ref (m + 8), .ref (m + 9), .int (nI (lz)), .ref (m + 10), .int (nI (ty)), .int (nI (h1_31)), .int (eI (e1_31)), .int ea, .int fa, .ref (m + 11), .int (nI (cn))])) := j0
    have hi : F2 (m + 10) = some (.inr (1, 60, fun b9 => .int (nI (ip b9)))) := j1
    have hag : ∀ a9 : Nat, (a9 < m ∨ m + 1 ≤ a9) → (a9 < m + 11 ∨ m + 11 + 1 ≤ a9) → F2 a9 = F a9 := fun a9 q0 q1 => (hag9 a9 (by omega)).trans (hag a9 q0 q1)
    have hg_31 := hag9
    clear hag9
    have hq_31 : qB ty (h1_31, e1_31) := by rw [← pk_31]; exact nd_B hq_3
    refine x_aload_n hC d_MessageCoderModel_draftOrDrop_34 rfl rfl ?_
    refine x_bipush hC d_MessageCoderModel_draftOrDrop_35 (v := nI 112) (by decide) ?_
    refine x_callV hC kv_MessageCoderModel_248 (c_MessageCoderModel_needs (o0 := o0) (hi := hi) (hs := hs) (hty := hty) (hq := hq_31) (hc := by omega)) o0 rfl rfl (by decide) rfl rfl rfl (Nat.le_of_ble_eq_true rfl) (by decide) d_MessageCoderModel_draftOrDrop_37 (fun r9 F9 z9 hp9 => ?_)
    obtain ⟨h1_37, e1_37, rfl, h9c, j0, j1, pk_37, hag9⟩ := hp9
    rw [h9c]
    clear h9c z9
    generalize F9 = F3 at *
    have hcm : F3 (m + 11) = some (.inr (0, 183, fun b9 => .int (nI (cs b9)))) := (hag9 _ (by omega)).trans hcm
    have o0 : F3 (m) = some (.inl (10, [.int (nI (th)), .ref (m + 1), .int (nI (ch)), .int (nI (sv)), .int rs, .ref (m + 2), .ref (m + 3), .ref (m + 4), .ref (m + 5), .ref (m + 6), .int (nI (bm)), .ref (m + 7), .int (nI (dm)), .ref (m + 8), .ref (m + 9), .int (nI (lz)), .ref (m + 10), .int (nI (ty)), .int (nI (h1_37)), .int (eI (e1_37)), .int ea, .int fa, .ref (m + 11), .int (nI (cn))])) := j0
    have hi : F3 (m + 10) = some (.inr (1, 60, fun b9 => .int (nI (ip b9)))) := j1
    have hag : ∀ a9 : Nat, (a9 < m ∨ m + 1 ≤ a9) → (a9 < m + 11 ∨ m + 11 + 1 ≤ a9) → F3 a9 = F a9 := fun a9 q0 q1 => (hag9 a9 (by omega)).trans (hag a9 q0 q1)
    have hg_37 := hag9
    clear hag9
    have hq_37 : qB ty (h1_37, e1_37) := by rw [← pk_37]; exact nd_B hq_31
    refine x_aload_n hC d_MessageCoderModel_draftOrDrop_40 rfl rfl ?_
    refine x_getf hC kf_MessageCoderModel_48 o0 rfl d_MessageCoderModel_draftOrDrop_41 ?_
    refine x_iload_n hC d_MessageCoderModel_draftOrDrop_44 rfl rfl ?_
    refine x_bipush hC d_MessageCoderModel_draftOrDrop_45 (v := nI 120) (by decide) ?_
    refine x_iast hC hcm (j := r) ⟨rfl, by omega, by omega⟩ d_MessageCoderModel_draftOrDrop_47 (g1 := fun b9 => nI (updN cs (r) (120) b9)) (x_updN _ _ _) ?_
    generalize eg1 : updN cs (r) (120) = g1
    generalize e5 : xup F3 (m + 11) (.inr (0, 183, fun b9 => .int (nI (g1 b9)))) = F5
    have hcm : F5 (m + 11) = some (.inr (0, 183, fun b9 => .int (nI (g1 b9)))) := by rw [← e5]; exact xup_eq
    have o0 : F5 (m) = some (.inl (10, [.int (nI (th)), .ref (m + 1), .int (nI (ch)), .int (nI (sv)), .int rs, .ref (m + 2), .ref (m + 3), .ref (m + 4), .ref (m + 5), .ref (m + 6), .int (nI (bm)), .ref (m + 7), .int (nI (dm)), .ref (m + 8), .ref (m + 9), .int (nI (lz)), .ref (m + 10), .int (nI (ty)), .int (nI (h1_37)), .int (eI (e1_37)), .int ea, .int fa, .ref (m + 11), .int (nI (cn))])) := by rw [← e5]; exact (xup_ne (by omega)).trans o0
    have hi : F5 (m + 10) = some (.inr (1, 60, fun b9 => .int (nI (ip b9)))) := by rw [← e5]; exact (xup_ne (by omega)).trans hi
    have hag : ∀ a9 : Nat, (a9 < m ∨ m + 1 ≤ a9) → (a9 < m + 11 ∨ m + 11 + 1 ≤ a9) → F5 a9 = F a9 := fun a9 q0 q1 => by rw [← e5]; exact (xup_ne (by omega)).trans (hag a9 q0 q1)
    refine x_aload_n hC d_MessageCoderModel_draftOrDrop_48 rfl rfl ?_
    refine x_getf hC kf_MessageCoderModel_48 o0 rfl d_MessageCoderModel_draftOrDrop_49 ?_
    refine x_iload_n hC d_MessageCoderModel_draftOrDrop_52 rfl rfl ?_
    refine x_iconst hC d_MessageCoderModel_draftOrDrop_53 (v := nI 1) (by decide) ?_
    refine x_iadd hC d_MessageCoderModel_draftOrDrop_54 (v := (nI (r + 1))) (x_addN (by omega)) ?_
    refine x_aload_n hC d_MessageCoderModel_draftOrDrop_55 rfl rfl ?_
    refine x_bipush hC d_MessageCoderModel_draftOrDrop_56 (v := nI 32) (by decide) ?_
    refine x_iconst hC d_MessageCoderModel_draftOrDrop_58 (v := nI 3) (by decide) ?_
    refine x_callV hC kv_MessageCoderModel_261 (c_MessageCoderModel_behind (o0 := o0) (hi := hi) (hs := hs) (hty := hty) (hq := hq_37) (hc := by omega) (hmm := by omega)) o0 rfl rfl (by decide) rfl rfl rfl (Nat.le_of_ble_eq_true rfl) (by decide) d_MessageCoderModel_draftOrDrop_59 (fun r9 F9 z9 hp9 => ?_)
    obtain ⟨h1_59, e1_59, v1_59, rfl, h9c, j0, j1, pk_59, hag9⟩ := hp9
    rw [h9c]
    clear h9c z9
    generalize F9 = F6 at *
    have hcm : F6 (m + 11) = some (.inr (0, 183, fun b9 => .int (nI (g1 b9)))) := (hag9 _ (by omega)).trans hcm
    have o0 : F6 (m) = some (.inl (10, [.int (nI (th)), .ref (m + 1), .int (nI (ch)), .int (nI (sv)), .int rs, .ref (m + 2), .ref (m + 3), .ref (m + 4), .ref (m + 5), .ref (m + 6), .int (nI (bm)), .ref (m + 7), .int (nI (dm)), .ref (m + 8), .ref (m + 9), .int (nI (lz)), .ref (m + 10), .int (nI (ty)), .int (nI (h1_59)), .int (eI (e1_59)), .int ea, .int fa, .ref (m + 11), .int (nI (cn))])) := j0
    have hi : F6 (m + 10) = some (.inr (1, 60, fun b9 => .int (nI (ip b9)))) := j1
    have hag : ∀ a9 : Nat, (a9 < m ∨ m + 1 ≤ a9) → (a9 < m + 11 ∨ m + 11 + 1 ≤ a9) → F6 a9 = F a9 := fun a9 q0 q1 => (hag9 a9 (by omega)).trans (hag a9 q0 q1)
    have hg_59 := hag9
    clear hag9
    have hq_59 : qB ty (h1_59, e1_59) ∧ v1_59 < 1000 := by have h9 := bh_B (s := ip) (c := 32) (m := 3) hq_37 (by omega); rw [pk_59] at h9; exact h9
    refine x_iast hC hcm (j := r + 1) ⟨rfl, by omega, by omega⟩ d_MessageCoderModel_draftOrDrop_62 (g1 := fun b9 => nI (updN g1 (r + 1) (v1_59) b9)) (x_updN _ _ _) ?_
    generalize eg2 : updN g1 (r + 1) (v1_59) = g2
    generalize e8 : xup F6 (m + 11) (.inr (0, 183, fun b9 => .int (nI (g2 b9)))) = F8
    have hcm : F8 (m + 11) = some (.inr (0, 183, fun b9 => .int (nI (g2 b9)))) := by rw [← e8]; exact xup_eq
    have o0 : F8 (m) = some (.inl (10, [.int (nI (th)), .ref (m + 1), .int (nI (ch)), .int (nI (sv)), .int rs, .ref (m + 2), .ref (m + 3), .ref (m + 4), .ref (m + 5), .ref (m + 6), .int (nI (bm)), .ref (m + 7), .int (nI (dm)), .ref (m + 8), .ref (m + 9), .int (nI (lz)), .ref (m + 10), .int (nI (ty)), .int (nI (h1_59)), .int (eI (e1_59)), .int ea, .int fa, .ref (m + 11), .int (nI (cn))])) := by rw [← e8]; exact (xup_ne (by omega)).trans o0
    have hi : F8 (m + 10) = some (.inr (1, 60, fun b9 => .int (nI (ip b9)))) := by rw [← e8]; exact (xup_ne (by omega)).trans hi
    have hag : ∀ a9 : Nat, (a9 < m ∨ m + 1 ≤ a9) → (a9 < m + 11 ∨ m + 11 + 1 ≤ a9) → F8 a9 = F a9 := fun a9 q0 q1 => by rw [← e8]; exact (xup_ne (by omega)).trans (hag a9 q0 q1)
    refine hret _ _ _ _ _ _ d_MessageCoderModel_draftOrDrop_63 (by decide) (by decide) ?_
    have hd : ddQ ty ip (h, e) = (false, (bh ty ip 32 3 (nd ty ip 112 (nd ty ip 111 (h1_3, e1_3)))).1) := by unfold ddQ; rw [pk_3]; exact if_neg (fun h9 => k2_nlt c_10 ((eI_lt (by omega)).mpr h9.1))
    have hg1 : g2 (r + 1) = v1_59 := by rw [← eg2]; exact updN_at rfl
    have hg0 : g2 r = 120 := by rw [← eg2, updN_ne (by omega), ← eg1]; exact updN_at rfl
    have hgo : ∀ q, q ≠ r → q ≠ r + 1 → g2 q = cs q := fun q h8 h9 => by rw [← eg2, updN_ne h9, ← eg1, updN_ne h8]
    exact ⟨h1_59, e1_59, g2, rfl, rfl, o0, hi, hcm, by rw [hd, pk_31, pk_37, pk_59], fun h9 => by rw [hd] at h9; exact absurd (show false = true from h9) (by decide), fun _ => ⟨by rw [pk_3, pk_31, pk_37, hg1]; exact pk_59, hg0, hgo _ (by omega) (by omega), by rw [hg1]; exact hq_59.2⟩, fun q h7 h8 _ => hgo q h7 h8, hq_59.1, hag⟩
  · skip
    refine x_aload_n hC d_MessageCoderModel_draftOrDrop_13 rfl rfl ?_
    refine x_callV hC kv_MessageCoderModel_245 (c_MessageCoderModel_sign (o0 := o0) (hi := hi) (hs := hs) (hty := hty) (hq := hq_3)) o0 rfl rfl (by decide) rfl rfl rfl (Nat.le_of_ble_eq_true rfl) (by decide) d_MessageCoderModel_draftOrDrop_14 (fun r9 F9 z9 hp9 => ?_)
    obtain ⟨rfl, h9b, h9c⟩ := hp9
    rw [h9b, h9c]
    clear h9b h9c F9 z9
    refine x_bipush hC d_MessageCoderModel_draftOrDrop_17 (v := nI 97) (by decide) ?_
    refine x_icmp_ne hC d_MessageCoderModel_draftOrDrop_19 (tgt := 28) (by decide) (fun c_19 => ?_) (fun c_19 => ?_)
    · skip
      refine x_aload_n hC d_MessageCoderModel_draftOrDrop_28 rfl rfl ?_
      refine x_bipush hC d_MessageCoderModel_draftOrDrop_29 (v := nI 111) (by decide) ?_
      refine x_callV hC kv_MessageCoderModel_248 (c_MessageCoderModel_needs (o0 := o0) (hi := hi) (hs := hs) (hty := hty) (hq := hq_3) (hc := by omega)) o0 rfl rfl (by decide) rfl rfl rfl (Nat.le_of_ble_eq_true rfl) (by decide) d_MessageCoderModel_draftOrDrop_31 (fun r9 F9 z9 hp9 => ?_)
      obtain ⟨h1_31, e1_31, rfl, h9c, j0, j1, pk_31, hag9⟩ := hp9
      rw [h9c]
      clear h9c z9
      generalize F9 = F9 at *
      have hcm : F9 (m + 11) = some (.inr (0, 183, fun b9 => .int (nI (cs b9)))) := (hag9 _ (by omega)).trans hcm
      have o0 : F9 (m) = some (.inl (10, [.int (nI (th)), .ref (m + 1), .int (nI (ch)), .int (nI (sv)), .int rs, .ref (m + 2), .ref (m + 3), .ref (m + 4), .ref (m + 5), .ref (m + 6), .int (nI (bm)), .ref (m + 7), .int (nI (dm)), .ref (m + 8), .ref (m + 9), .int (nI (lz)), .ref (m + 10), .int (nI (ty)), .int (nI (h1_31)), .int (eI (e1_31)), .int ea, .int fa, .ref (m + 11), .int (nI (cn))])) := j0
      have hi : F9 (m + 10) = some (.inr (1, 60, fun b9 => .int (nI (ip b9)))) := j1
      have hag : ∀ a9 : Nat, (a9 < m ∨ m + 1 ≤ a9) → (a9 < m + 11 ∨ m + 11 + 1 ≤ a9) → F9 a9 = F a9 := fun a9 q0 q1 => (hag9 a9 (by omega)).trans (hag a9 q0 q1)
      have hg_31 := hag9
      clear hag9
      have hq_31 : qB ty (h1_31, e1_31) := by rw [← pk_31]; exact nd_B hq_3
      refine x_aload_n hC d_MessageCoderModel_draftOrDrop_34 rfl rfl ?_
      refine x_bipush hC d_MessageCoderModel_draftOrDrop_35 (v := nI 112) (by decide) ?_
      refine x_callV hC kv_MessageCoderModel_248 (c_MessageCoderModel_needs (o0 := o0) (hi := hi) (hs := hs) (hty := hty) (hq := hq_31) (hc := by omega)) o0 rfl rfl (by decide) rfl rfl rfl (Nat.le_of_ble_eq_true rfl) (by decide) d_MessageCoderModel_draftOrDrop_37 (fun r9 F9 z9 hp9 => ?_)
      obtain ⟨h1_37, e1_37, rfl, h9c, j0, j1, pk_37, hag9⟩ := hp9
      rw [h9c]
      clear h9c z9
      generalize F9 = F10 at *
      have hcm : F10 (m + 11) = some (.inr (0, 183, fun b9 => .int (nI (cs b9)))) := (hag9 _ (by omega)).trans hcm
      have o0 : F10 (m) = some (.inl (10, [.int (nI (th)), .ref (m + 1), .int (nI (ch)), .int (nI (sv)), .int rs, .ref (m + 2), .ref (m + 3), .ref (m + 4), .ref (m + 5), .ref (m + 6), .int (nI (bm)), .ref (m + 7), .int (nI (dm)), .ref (m + 8), .ref (m + 9), .int (nI (lz)), .ref (m + 10), .int (nI (ty)), .int (nI (h1_37)), .int (eI (e1_37)), .int ea, .int fa, .ref (m + 11), .int (nI (cn))])) := j0
      have hi : F10 (m + 10) = some (.inr (1, 60, fun b9 => .int (nI (ip b9)))) := j1
      have hag : ∀ a9 : Nat, (a9 < m ∨ m + 1 ≤ a9) → (a9 < m + 11 ∨ m + 11 + 1 ≤ a9) → F10 a9 = F a9 := fun a9 q0 q1 => (hag9 a9 (by omega)).trans (hag a9 q0 q1)
      have hg_37 := hag9
      clear hag9
      have hq_37 : qB ty (h1_37, e1_37) := by rw [← pk_37]; exact nd_B hq_31
      refine x_aload_n hC d_MessageCoderModel_draftOrDrop_40 rfl rfl ?_
      refine x_getf hC kf_MessageCoderModel_48 o0 rfl d_MessageCoderModel_draftOrDrop_41 ?_
      refine x_iload_n hC d_MessageCoderModel_draftOrDrop_44 rfl rfl ?_
      refine x_bipush hC d_MessageCoderModel_draftOrDrop_45 (v := nI 120) (by decide) ?_
      refine x_iast hC hcm (j := r) ⟨rfl, by omega, by omega⟩ d_MessageCoderModel_draftOrDrop_47 (g1 := fun b9 => nI (updN cs (r) (120) b9)) (x_updN _ _ _) ?_
      generalize eg1 : updN cs (r) (120) = g1
      generalize e12 : xup F10 (m + 11) (.inr (0, 183, fun b9 => .int (nI (g1 b9)))) = F12
      have hcm : F12 (m + 11) = some (.inr (0, 183, fun b9 => .int (nI (g1 b9)))) := by rw [← e12]; exact xup_eq
      have o0 : F12 (m) = some (.inl (10, [.int (nI (th)), .ref (m + 1), .int (nI (ch)), .int (nI (sv)), .int rs, .ref (m + 2), .ref (m + 3), .ref (m + 4), .ref (m + 5), .ref (m + 6), .int (nI (bm)), .ref (m + 7), .int (nI (dm)), .ref (m + 8), .ref (m + 9), .int (nI (lz)), .ref (m + 10), .int (nI (ty)), .int (nI (h1_37)), .int (eI (e1_37)), .int ea, .int fa, .ref (m + 11), .int (nI (cn))])) := by rw [← e12]; exact (xup_ne (by omega)).trans o0
      have hi : F12 (m + 10) = some (.inr (1, 60, fun b9 => .int (nI (ip b9)))) := by rw [← e12]; exact (xup_ne (by omega)).trans hi
      have hag : ∀ a9 : Nat, (a9 < m ∨ m + 1 ≤ a9) → (a9 < m + 11 ∨ m + 11 + 1 ≤ a9) → F12 a9 = F a9 := fun a9 q0 q1 => by rw [← e12]; exact (xup_ne (by omega)).trans (hag a9 q0 q1)
      refine x_aload_n hC d_MessageCoderModel_draftOrDrop_48 rfl rfl ?_
      refine x_getf hC kf_MessageCoderModel_48 o0 rfl d_MessageCoderModel_draftOrDrop_49 ?_
      refine x_iload_n hC d_MessageCoderModel_draftOrDrop_52 rfl rfl ?_
      refine x_iconst hC d_MessageCoderModel_draftOrDrop_53 (v := nI 1) (by decide) ?_
      refine x_iadd hC d_MessageCoderModel_draftOrDrop_54 (v := (nI (r + 1))) (x_addN (by omega)) ?_
      refine x_aload_n hC d_MessageCoderModel_draftOrDrop_55 rfl rfl ?_
      refine x_bipush hC d_MessageCoderModel_draftOrDrop_56 (v := nI 32) (by decide) ?_
      refine x_iconst hC d_MessageCoderModel_draftOrDrop_58 (v := nI 3) (by decide) ?_
      refine x_callV hC kv_MessageCoderModel_261 (c_MessageCoderModel_behind (o0 := o0) (hi := hi) (hs := hs) (hty := hty) (hq := hq_37) (hc := by omega) (hmm := by omega)) o0 rfl rfl (by decide) rfl rfl rfl (Nat.le_of_ble_eq_true rfl) (by decide) d_MessageCoderModel_draftOrDrop_59 (fun r9 F9 z9 hp9 => ?_)
      obtain ⟨h1_59, e1_59, v1_59, rfl, h9c, j0, j1, pk_59, hag9⟩ := hp9
      rw [h9c]
      clear h9c z9
      generalize F9 = F13 at *
      have hcm : F13 (m + 11) = some (.inr (0, 183, fun b9 => .int (nI (g1 b9)))) := (hag9 _ (by omega)).trans hcm
      have o0 : F13 (m) = some (.inl (10, [.int (nI (th)), .ref (m + 1), .int (nI (ch)), .int (nI (sv)), .int rs, .ref (m + 2), .ref (m + 3), .ref (m + 4), .ref (m + 5), .ref (m + 6), .int (nI (bm)), .ref (m + 7), .int (nI (dm)), .ref (m + 8), .ref (m + 9), .int (nI (lz)), .ref (m + 10), .int (nI (ty)), .int (nI (h1_59)), .int (eI (e1_59)), .int ea, .int fa, .ref (m + 11), .int (nI (cn))])) := j0
      have hi : F13 (m + 10) = some (.inr (1, 60, fun b9 => .int (nI (ip b9)))) := j1
      have hag : ∀ a9 : Nat, (a9 < m ∨ m + 1 ≤ a9) → (a9 < m + 11 ∨ m + 11 + 1 ≤ a9) → F13 a9 = F a9 := fun a9 q0 q1 => (hag9 a9 (by omega)).trans (hag a9 q0 q1)
      have hg_59 := hag9
      clear hag9
      have hq_59 : qB ty (h1_59, e1_59) ∧ v1_59 < 1000 := by have h9 := bh_B (s := ip) (c := 32) (m := 3) hq_37 (by omega); rw [pk_59] at h9; exact h9
      refine x_iast hC hcm (j := r + 1) ⟨rfl, by omega, by omega⟩ d_MessageCoderModel_draftOrDrop_62 (g1 := fun b9 => nI (updN g1 (r + 1) (v1_59) b9)) (x_updN _ _ _) ?_
      generalize eg2 : updN g1 (r + 1) (v1_59) = g2
      generalize e15 : xup F13 (m + 11) (.inr (0, 183, fun b9 => .int (nI (g2 b9)))) = F15
      have hcm : F15 (m + 11) = some (.inr (0, 183, fun b9 => .int (nI (g2 b9)))) := by rw [← e15]; exact xup_eq
      have o0 : F15 (m) = some (.inl (10, [.int (nI (th)), .ref (m + 1), .int (nI (ch)), .int (nI (sv)), .int rs, .ref (m + 2), .ref (m + 3), .ref (m + 4), .ref (m + 5), .ref (m + 6), .int (nI (bm)), .ref (m + 7), .int (nI (dm)), .ref (m + 8), .ref (m + 9), .int (nI (lz)), .ref (m + 10), .int (nI (ty)), .int (nI (h1_59)), .int (eI (e1_59)), .int ea, .int fa, .ref (m + 11), .int (nI (cn))])) := by rw [← e15]; exact (xup_ne (by omega)).trans o0
      have hi : F15 (m + 10) = some (.inr (1, 60, fun b9 => .int (nI (ip b9)))) := by rw [← e15]; exact (xup_ne (by omega)).trans hi
      have hag : ∀ a9 : Nat, (a9 < m ∨ m + 1 ≤ a9) → (a9 < m + 11 ∨ m + 11 + 1 ≤ a9) → F15 a9 = F a9 := fun a9 q0 q1 => by rw [← e15]; exact (xup_ne (by omega)).trans (hag a9 q0 q1)
      refine hret _ _ _ _ _ _ d_MessageCoderModel_draftOrDrop_63 (by decide) (by decide) ?_
      have hd : ddQ ty ip (h, e) = (false, (bh ty ip 32 3 (nd ty ip 112 (nd ty ip 111 (h1_3, e1_3)))).1) := by unfold ddQ; rw [pk_3]; exact if_neg (fun h9 => c_19 ((sg_eq hs (by decide)).mpr h9.2))
      have hg1 : g2 (r + 1) = v1_59 := by rw [← eg2]; exact updN_at rfl
      have hg0 : g2 r = 120 := by rw [← eg2, updN_ne (by omega), ← eg1]; exact updN_at rfl
      have hgo : ∀ q, q ≠ r → q ≠ r + 1 → g2 q = cs q := fun q h8 h9 => by rw [← eg2, updN_ne h9, ← eg1, updN_ne h8]
      exact ⟨h1_59, e1_59, g2, rfl, rfl, o0, hi, hcm, by rw [hd, pk_31, pk_37, pk_59], fun h9 => by rw [hd] at h9; exact absurd (show false = true from h9) (by decide), fun _ => ⟨by rw [pk_3, pk_31, pk_37, hg1]; exact pk_59, hg0, hgo _ (by omega) (by omega), by rw [hg1]; exact hq_59.2⟩, fun q h7 h8 _ => hgo q h7 h8, hq_59.1, hag⟩
    · skip
      refine x_aload_n hC d_MessageCoderModel_draftOrDrop_22 rfl rfl ?_
      refine x_iload_n hC d_MessageCoderModel_draftOrDrop_23 rfl rfl ?_
      refine x_callV hC kv_MessageCoderModel_258 (c_MessageCoderModel_drafting (o0 := o0) (hi := hi) (hcm := hcm) (hs := hs) (hty := hty) (hq := hq_3) (hr := hr)) o0 rfl rfl (by decide) rfl rfl rfl (Nat.le_of_ble_eq_true rfl) (by decide) d_MessageCoderModel_draftOrDrop_24 (fun r9 F9 z9 hp9 => ?_)
      obtain ⟨h1_24, e1_24, cs1_24, rfl, h9c, j0, j1, j2, pk_24, pv_24, po_24, pb_24, hag9⟩ := hp9
      rw [h9c]
      clear h9c z9
      generalize F9 = F16 at *
      have o0 : F16 (m) = some (.inl (10, [.int (nI (th)), .ref (m + 1), .int (nI (ch)), .int (nI (sv)), .int rs, .ref (m + 2), .ref (m + 3), .ref (m + 4), .ref (m + 5), .ref (m + 6), .int (nI (bm)), .ref (m + 7), .int (nI (dm)), .ref (m + 8), .ref (m + 9), .int (nI (lz)), .ref (m + 10), .int (nI (ty)), .int (nI (h1_24)), .int (eI (e1_24)), .int ea, .int fa, .ref (m + 11), .int (nI (cn))])) := j0
      have hi : F16 (m + 10) = some (.inr (1, 60, fun b9 => .int (nI (ip b9)))) := j1
      have hcm : F16 (m + 11) = some (.inr (0, 183, fun b9 => .int (nI (cs1_24 b9)))) := j2
      have hag : ∀ a9 : Nat, (a9 < m ∨ m + 1 ≤ a9) → (a9 < m + 11 ∨ m + 11 + 1 ≤ a9) → F16 a9 = F a9 := fun a9 q0 q1 => (hag9 a9 (by omega) (by omega)).trans (hag a9 q0 q1)
      have hg_24 := hag9
      clear hag9
      refine hret _ _ _ _ _ _ d_MessageCoderModel_draftOrDrop_27 (by decide) (by decide) ?_
      have hz : e1_3 = 0 := (eI_lt (by omega)).mp (Int32.not_le.mp c_10)
      have hc := (sg_eq hs (by decide)).mp c_19
      have hd : ddQ ty ip (h, e) = (true, dfQ ty ip (h1_3, e1_3)) := by unfold ddQ; rw [pk_3]; exact if_pos ⟨hz, hc⟩
      exact ⟨h1_24, e1_24, cs1_24, rfl, rfl, o0, hi, hcm, by rw [hd]; exact pk_24, fun _ => ⟨by rw [pk_3]; exact pk_24, po_24 r (by omega) (by omega), fun h9 => by rw [pk_3]; exact pv_24 h9⟩, fun h9 => by rw [hd] at h9; exact absurd (show true = false from h9) (by decide), fun q _ h8 h9 => po_24 q h8 h9, pb_24, hag⟩

