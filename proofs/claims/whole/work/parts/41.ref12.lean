/-! the reference: its line and its beginning -/
abbrev yWn1 : xY := (⟨"MessageCoderModel", "writesNumber", "(I)V"⟩, prog_14_method_101_code, 2, none, 12)
abbrev yWn2 : xY := (⟨"MessageCoderModel", "writesNumber", "(I)V"⟩, prog_14_method_101_code, 2, none, 13)
theorem kWn1 : xLV "MessageCoderModel" 230 yWn1 1 := kv_MessageCoderModel_230
theorem kWn2 : xLV "MessageCoderModel" 230 yWn2 1 := kv_MessageCoderModel_230
theorem wn_1 : ∀ v, v < 10 → dgs v = 1 ∧ dgc v 0 = 48 + v % 10 := by decide +kernel
theorem wn_2 : ∀ v, v < 1000 → 10 ≤ v → dgs v = dgs (v / 10) + 1 ∧ (∀ j, j < dgs (v / 10) → dgc v j = dgc (v / 10) j) ∧ dgc v (dgs (v / 10)) = 48 + v % 10 := by decide +kernel
theorem wn_b : ∀ v, v < 1000 → 1 ≤ dgs v ∧ (v < 100 → dgs v ≤ 2) ∧ (v < 10 → dgs v ≤ 1) := by decide +kernel
theorem ag_upd {f g : Nat → Nat} {n : Nat} (c : Nat) (h : ∀ j, j < n → f j = g j) : ∀ j, j < n + 1 → updN f n c j = updN g n c j := fun j hj => by
  by_cases e : j = n
  · rw [e, updN_eq, updN_eq]
  · rw [updN_ne e, updN_ne e]
    exact h j (by omega)
theorem ag_cat {f g h d : Nat → Nat} {n k : Nat} (hg : ∀ j, j < n → f j = g j) (hh : ∀ j, j < n + k → h j = xcat f n d j) : ∀ j, j < n + k → h j = xcat g n d j := fun j hj => by
  rw [hh j hj]
  unfold xcat
  by_cases c : j < n
  · rw [if_pos c, if_pos c]
    exact hg j c
  · rw [if_neg c, if_neg c]
theorem ag_0 {f h d : Nat → Nat} {k : Nat} (hh : ∀ j, j < 0 + k → h j = xcat f 0 d j) : ∀ j, j < k → h j = d j := fun j hj => (hh j (by omega)).trans ((if_neg (Nat.not_lt_zero j)).trans rfl)

theorem d_MessageCoderModel_writes_0 : decode prog_14_method_100_code 0 = .ok (.aload_n 0, 1) := by decide +kernel
theorem d_MessageCoderModel_writes_1 : decode prog_14_method_100_code 1 = .ok (.getfield 34, 3) := by decide +kernel
theorem d_MessageCoderModel_writes_4 : decode prog_14_method_100_code 4 = .ok (.aload_n 0, 1) := by decide +kernel
theorem d_MessageCoderModel_writes_5 : decode prog_14_method_100_code 5 = .ok (.getfield 227, 3) := by decide +kernel
theorem d_MessageCoderModel_writes_8 : decode prog_14_method_100_code 8 = .ok (.iload_n 1, 1) := by decide +kernel
theorem d_MessageCoderModel_writes_9 : decode prog_14_method_100_code 9 = .ok (.i2c, 1) := by decide +kernel
theorem d_MessageCoderModel_writes_10 : decode prog_14_method_100_code 10 = .ok (.castore, 1) := by decide +kernel
theorem d_MessageCoderModel_writes_11 : decode prog_14_method_100_code 11 = .ok (.aload_n 0, 1) := by decide +kernel
theorem d_MessageCoderModel_writes_12 : decode prog_14_method_100_code 12 = .ok (.dup, 1) := by decide +kernel
theorem d_MessageCoderModel_writes_13 : decode prog_14_method_100_code 13 = .ok (.getfield 227, 3) := by decide +kernel
theorem d_MessageCoderModel_writes_16 : decode prog_14_method_100_code 16 = .ok (.iconst 1, 1) := by decide +kernel
theorem d_MessageCoderModel_writes_17 : decode prog_14_method_100_code 17 = .ok (.iadd, 1) := by decide +kernel
theorem d_MessageCoderModel_writes_18 : decode prog_14_method_100_code 18 = .ok (.putfield 227, 3) := by decide +kernel
theorem d_MessageCoderModel_writes_21 : decode prog_14_method_100_code 21 = .ok (.return_, 1) := by decide +kernel
set_option maxHeartbeats 4000000 in
set_option maxRecDepth 20000 in
theorem c_MessageCoderModel_writes {P : xP} {F : xF} {z : Nat} {m : Nat} {th : Nat} {ch : Nat} {sv : Nat} {rs : Int32} {bm : Nat} {dm : Nat} {lz : Nat} {ty : Nat} {he : Nat} {er : Int32} {ea : Int32} {fa : Int32} {cn : Nat} {ln : Nat → Nat} {c : Nat} (o0 : F (m) = some (.inl (10, [.int (nI (th)), .ref (m + 1), .int (nI (ch)), .int (nI (sv)), .int rs, .ref (m + 2), .ref (m + 3), .ref (m + 4), .ref (m + 5), .ref (m + 6), .int (nI (bm)), .ref (m + 7), .int (nI (dm)), .ref (m + 8), .ref (m + 9), .int (nI (lz)), .ref (m + 10), .int (nI (ty)), .int (nI (he)), .int er, .int ea, .int fa, .ref (m + 11), .int (nI (cn))]))) (h9 : F (m + 9) = some (.inr (1, 40, fun b9 => .int (nI (ln b9))))) (hc : c < 65536) (hlz : lz < 40) : xM P xy_MessageCoderModel_writes [.ref m, .int (nI (c))] F (z) 0 0 (fun r9 F9 z9 => r9 = none ∧ z9 = z ∧ F9 (m) = some (.inl (10, [.int (nI (th)), .ref (m + 1), .int (nI (ch)), .int (nI (sv)), .int rs, .ref (m + 2), .ref (m + 3), .ref (m + 4), .ref (m + 5), .ref (m + 6), .int (nI (bm)), .ref (m + 7), .int (nI (dm)), .ref (m + 8), .ref (m + 9), .int (nI ((lz + 1))), .ref (m + 10), .int (nI (ty)), .int (nI (he)), .int er, .int ea, .int fa, .ref (m + 11), .int (nI (cn))])) ∧ F9 (m + 9) = some (.inr (1, 40, fun b9 => .int (nI ((updN ln lz c) b9)))) ∧ (∀ a9 : Nat, (a9 < m ∨ m + 1 ≤ a9) → (a9 < m + 9 ∨ m + 9 + 1 ≤ a9) → F9 a9 = F a9)) := by
  refine xM_v rfl (Nat.le_of_ble_eq_true rfl) (L0 := [some (.ref m), some (.int (nI (c)))]) rfl rfl fun Θ hC hin hret => ?_
  have hag : ∀ a9 : Nat, (a9 < m ∨ m + 1 ≤ a9) → (a9 < m + 9 ∨ m + 9 + 1 ≤ a9) → F a9 = F a9 := fun a9 _ _ => rfl
  refine x_aload_n hC d_MessageCoderModel_writes_0 rfl rfl ?_
  refine x_getf hC kf_MessageCoderModel_34 o0 rfl d_MessageCoderModel_writes_1 ?_
  refine x_aload_n hC d_MessageCoderModel_writes_4 rfl rfl ?_
  refine x_getf hC kf_MessageCoderModel_227 o0 rfl d_MessageCoderModel_writes_5 ?_
  refine x_iload_n hC d_MessageCoderModel_writes_8 rfl rfl ?_
  refine x_i2c hC d_MessageCoderModel_writes_9 (v := (nI (c))) (x_i2cN (by omega)) ?_
  refine x_cast hC h9 (j := lz) ⟨rfl, by omega, by omega⟩ (x_char _ (by omega)) d_MessageCoderModel_writes_10 (g1 := fun b9 => nI (updN ln (lz) (c) b9)) (x_updN _ _ _) ?_
  generalize egl : updN ln (lz) (c) = gl
  generalize e2 : xup F (m + 9) (.inr (1, 40, fun b9 => .int (nI (gl b9)))) = F2
  have o0 : F2 (m) = some (.inl (10, [.int (nI (th)), .ref (m + 1), .int (nI (ch)), .int (nI (sv)), .int rs, .ref (m + 2), .ref (m + 3), .ref (m + 4), .ref (m + 5), .ref (m + 6), .int (nI (bm)), .ref (m + 7), .int (nI (dm)), .ref (m + 8), .ref (m + 9), .int (nI (lz)), .ref (m + 10), .int (nI (ty)), .int (nI (he)), .int er, .int ea, .int fa, .ref (m + 11), .int (nI (cn))])) := by rw [← e2]; exact (xup_ne (by omega)).trans o0
  have h9 : F2 (m + 9) = some (.inr (1, 40, fun b9 => .int (nI (gl b9)))) := by rw [← e2]; exact xup_eq
  have hag : ∀ a9 : Nat, (a9 < m ∨ m + 1 ≤ a9) → (a9 < m + 9 ∨ m + 9 + 1 ≤ a9) → F2 a9 = F a9 := fun a9 q0 q1 => by rw [← e2]; exact (xup_ne (by omega)).trans (hag a9 q0 q1)
  refine x_aload_n hC d_MessageCoderModel_writes_11 rfl rfl ?_
  refine x_dup hC d_MessageCoderModel_writes_12 rfl ?_
  refine x_getf hC kf_MessageCoderModel_227 o0 rfl d_MessageCoderModel_writes_13 ?_
  refine x_iconst hC d_MessageCoderModel_writes_16 (v := nI 1) (by decide) ?_
  refine x_iadd hC d_MessageCoderModel_writes_17 (v := (nI (lz + 1))) (x_addN (by omega)) ?_
  refine x_putf hC kf_MessageCoderModel_227 o0 (Nat.le_of_ble_eq_true rfl) rfl rfl d_MessageCoderModel_writes_18 (fs1 := [.int (nI (th)), .ref (m + 1), .int (nI (ch)), .int (nI (sv)), .int rs, .ref (m + 2), .ref (m + 3), .ref (m + 4), .ref (m + 5), .ref (m + 6), .int (nI (bm)), .ref (m + 7), .int (nI (dm)), .ref (m + 8), .ref (m + 9), .int (nI (lz + 1)), .ref (m + 10), .int (nI (ty)), .int (nI (he)), .int er, .int ea, .int fa, .ref (m + 11), .int (nI (cn))]) rfl ?_
  generalize e3 : xup F2 (m) (.inl (10, [.int (nI (th)), .ref (m + 1), .int (nI (ch)), .int (nI (sv)), .int rs, .ref (m + 2), .ref (m + 3), .ref (m + 4), .ref (m + 5), .ref (m + 6), .int (nI (bm)), .ref (m + 7), .int (nI (dm)), .ref (m + 8), .ref (m + 9), .int (nI (lz + 1)), .ref (m + 10), .int (nI (ty)), .int (nI (he)), .int er, .int ea, .int fa, .ref (m + 11), .int (nI (cn))])) = F3
  have o0 : F3 (m) = some (.inl (10, [.int (nI (th)), .ref (m + 1), .int (nI (ch)), .int (nI (sv)), .int rs, .ref (m + 2), .ref (m + 3), .ref (m + 4), .ref (m + 5), .ref (m + 6), .int (nI (bm)), .ref (m + 7), .int (nI (dm)), .ref (m + 8), .ref (m + 9), .int (nI (lz + 1)), .ref (m + 10), .int (nI (ty)), .int (nI (he)), .int er, .int ea, .int fa, .ref (m + 11), .int (nI (cn))])) := by rw [← e3]; exact xup_eq
  have h9 : F3 (m + 9) = some (.inr (1, 40, fun b9 => .int (nI (gl b9)))) := by rw [← e3]; exact (xup_ne (by omega)).trans h9
  have hag : ∀ a9 : Nat, (a9 < m ∨ m + 1 ≤ a9) → (a9 < m + 9 ∨ m + 9 + 1 ≤ a9) → F3 a9 = F a9 := fun a9 q0 q1 => by rw [← e3]; exact (xup_ne (by omega)).trans (hag a9 q0 q1)
  exact hret _ _ _ _ _ _ d_MessageCoderModel_writes_21 (by decide) (by decide) (⟨rfl, rfl, o0, by rw [show updN ln lz c = gl from egl]; exact h9, hag⟩)

theorem d_MessageCoderModel_writesNumber_0 : decode prog_14_method_101_code 0 = .ok (.iload_n 1, 1) := by decide +kernel
theorem d_MessageCoderModel_writesNumber_1 : decode prog_14_method_101_code 1 = .ok (.bipush 9, 2) := by decide +kernel
theorem d_MessageCoderModel_writesNumber_3 : decode prog_14_method_101_code 3 = .ok (.if_icmp .le 11, 3) := by decide +kernel
theorem d_MessageCoderModel_writesNumber_6 : decode prog_14_method_101_code 6 = .ok (.aload_n 0, 1) := by decide +kernel
theorem d_MessageCoderModel_writesNumber_7 : decode prog_14_method_101_code 7 = .ok (.iload_n 1, 1) := by decide +kernel
theorem d_MessageCoderModel_writesNumber_8 : decode prog_14_method_101_code 8 = .ok (.bipush 10, 2) := by decide +kernel
theorem d_MessageCoderModel_writesNumber_10 : decode prog_14_method_101_code 10 = .ok (.idiv, 1) := by decide +kernel
theorem d_MessageCoderModel_writesNumber_11 : decode prog_14_method_101_code 11 = .ok (.invokevirtual 230, 3) := by decide +kernel
theorem d_MessageCoderModel_writesNumber_14 : decode prog_14_method_101_code 14 = .ok (.aload_n 0, 1) := by decide +kernel
theorem d_MessageCoderModel_writesNumber_15 : decode prog_14_method_101_code 15 = .ok (.bipush 48, 2) := by decide +kernel
theorem d_MessageCoderModel_writesNumber_17 : decode prog_14_method_101_code 17 = .ok (.iload_n 1, 1) := by decide +kernel
theorem d_MessageCoderModel_writesNumber_18 : decode prog_14_method_101_code 18 = .ok (.bipush 10, 2) := by decide +kernel
theorem d_MessageCoderModel_writesNumber_20 : decode prog_14_method_101_code 20 = .ok (.irem, 1) := by decide +kernel
theorem d_MessageCoderModel_writesNumber_21 : decode prog_14_method_101_code 21 = .ok (.iadd, 1) := by decide +kernel
theorem d_MessageCoderModel_writesNumber_22 : decode prog_14_method_101_code 22 = .ok (.invokevirtual 233, 3) := by decide +kernel
theorem d_MessageCoderModel_writesNumber_25 : decode prog_14_method_101_code 25 = .ok (.return_, 1) := by decide +kernel
set_option maxHeartbeats 4000000 in
set_option maxRecDepth 20000 in
theorem c_MessageCoderModel_writesNumber1 {P : xP} {F : xF} {z : Nat} {m : Nat} {th : Nat} {ch : Nat} {sv : Nat} {rs : Int32} {bm : Nat} {dm : Nat} {lz : Nat} {ty : Nat} {he : Nat} {er : Int32} {ea : Int32} {fa : Int32} {cn : Nat} {ln : Nat → Nat} {v : Nat} (o0 : F (m) = some (.inl (10, [.int (nI (th)), .ref (m + 1), .int (nI (ch)), .int (nI (sv)), .int rs, .ref (m + 2), .ref (m + 3), .ref (m + 4), .ref (m + 5), .ref (m + 6), .int (nI (bm)), .ref (m + 7), .int (nI (dm)), .ref (m + 8), .ref (m + 9), .int (nI (lz)), .ref (m + 10), .int (nI (ty)), .int (nI (he)), .int er, .int ea, .int fa, .ref (m + 11), .int (nI (cn))]))) (h9 : F (m + 9) = some (.inr (1, 40, fun b9 => .int (nI (ln b9))))) (hv : v < 10) (hlz : lz + 1 ≤ 40) : xM P yWn1 [.ref m, .int (nI (v))] F (z) 0 0 (fun r9 F9 z9 => ∃ ln1 : Nat → Nat, r9 = none ∧ z9 = z ∧ F9 (m) = some (.inl (10, [.int (nI (th)), .ref (m + 1), .int (nI (ch)), .int (nI (sv)), .int rs, .ref (m + 2), .ref (m + 3), .ref (m + 4), .ref (m + 5), .ref (m + 6), .int (nI (bm)), .ref (m + 7), .int (nI (dm)), .ref (m + 8), .ref (m + 9), .int (nI ((lz + dgs v))), .ref (m + 10), .int (nI (ty)), .int (nI (he)), .int er, .int ea, .int fa, .ref (m + 11), .int (nI (cn))])) ∧ F9 (m + 9) = some (.inr (1, 40, fun b9 => .int (nI (ln1 b9)))) ∧ (∀ j, j < lz + dgs v → ln1 j = xcat ln lz (dgc v) j) ∧ (∀ a9 : Nat, (a9 < m ∨ m + 1 ≤ a9) → (a9 < m + 9 ∨ m + 9 + 1 ≤ a9) → F9 a9 = F a9)) := by
  refine xM_v rfl (Nat.le_of_ble_eq_true rfl) (L0 := [some (.ref m), some (.int (nI (v)))]) rfl rfl fun Θ hC hin hret => ?_
  have hag : ∀ a9 : Nat, (a9 < m ∨ m + 1 ≤ a9) → (a9 < m + 9 ∨ m + 9 + 1 ≤ a9) → F a9 = F a9 := fun a9 _ _ => rfl
  refine x_iload_n hC d_MessageCoderModel_writesNumber_0 rfl rfl ?_
  refine x_bipush hC d_MessageCoderModel_writesNumber_1 (v := nI 9) (by decide) ?_
  refine x_icmpN_le hC d_MessageCoderModel_writesNumber_3 (tgt := 14) (by decide) (by omega) (by omega) (fun c_3 => ?_) (fun c_3 => ?_)
  · skip
    refine x_aload_n hC d_MessageCoderModel_writesNumber_14 rfl rfl ?_
    refine x_bipush hC d_MessageCoderModel_writesNumber_15 (v := nI 48) (by decide) ?_
    refine x_iload_n hC d_MessageCoderModel_writesNumber_17 rfl rfl ?_
    refine x_bipush hC d_MessageCoderModel_writesNumber_18 (v := nI 10) (by decide) ?_
    refine x_irem hC d_MessageCoderModel_writesNumber_20 (x_ne0 (by omega) (by omega)) (v := (nI ((v) % (10)))) (pk_rem (by omega) (by omega) (by omega)) ?_
    refine x_iadd hC d_MessageCoderModel_writesNumber_21 (v := (nI ((48) + ((v) % (10))))) (x_addN (by omega)) ?_
    refine x_callV hC kv_MessageCoderModel_233 (c_MessageCoderModel_writes (o0 := o0) (h9 := h9) (hc := by omega) (hlz := by omega)) o0 rfl rfl (by decide) rfl rfl rfl (Nat.le_of_ble_eq_true rfl) (by decide) d_MessageCoderModel_writesNumber_22 (fun r9 F9 z9 hp9 => ?_)
    obtain ⟨rfl, h9c, j0, j1, hag9⟩ := hp9
    rw [h9c]
    clear h9c z9
    generalize F9 = F1 at *
    have o0 : F1 (m) = some (.inl (10, [.int (nI (th)), .ref (m + 1), .int (nI (ch)), .int (nI (sv)), .int rs, .ref (m + 2), .ref (m + 3), .ref (m + 4), .ref (m + 5), .ref (m + 6), .int (nI (bm)), .ref (m + 7), .int (nI (dm)), .ref (m + 8), .ref (m + 9), .int (nI ((lz + 1))), .ref (m + 10), .int (nI (ty)), .int (nI (he)), .int er, .int ea, .int fa, .ref (m + 11), .int (nI (cn))])) := j0
    have h9 : F1 (m + 9) = some (.inr (1, 40, fun b9 => .int (nI ((updN ln lz ((48) + ((v) % (10)))) b9)))) := j1
    have hag : ∀ a9 : Nat, (a9 < m ∨ m + 1 ≤ a9) → (a9 < m + 9 ∨ m + 9 + 1 ≤ a9) → F1 a9 = F a9 := fun a9 q0 q1 => (hag9 a9 (by omega) (by omega)).trans (hag a9 q0 q1)
    have hg_22 := hag9
    clear hag9
    refine hret _ _ _ _ _ _ d_MessageCoderModel_writesNumber_25 (by decide) (by decide) ?_
    obtain ⟨e1, e2⟩ := wn_1 v (by omega)
    exact ⟨updN ln lz (48 + v % 10), rfl, rfl, by rw [e1]; exact o0, h9, fun j hj => by rw [e1] at hj; unfold xcat; by_cases e : j = lz; (rw [e, updN_eq, if_neg (Nat.lt_irrefl lz), Nat.sub_self, e2]); (rw [updN_ne e, if_pos (by omega)]), hag⟩
  · skip
    exact absurd c_3 (by omega)

set_option maxHeartbeats 4000000 in
set_option maxRecDepth 20000 in
theorem c_MessageCoderModel_writesNumber2 {P : xP} {F : xF} {z : Nat} {m : Nat} {th : Nat} {ch : Nat} {sv : Nat} {rs : Int32} {bm : Nat} {dm : Nat} {lz : Nat} {ty : Nat} {he : Nat} {er : Int32} {ea : Int32} {fa : Int32} {cn : Nat} {ln : Nat → Nat} {v : Nat} (o0 : F (m) = some (.inl (10, [.int (nI (th)), .ref (m + 1), .int (nI (ch)), .int (nI (sv)), .int rs, .ref (m + 2), .ref (m + 3), .ref (m + 4), .ref (m + 5), .ref (m + 6), .int (nI (bm)), .ref (m + 7), .int (nI (dm)), .ref (m + 8), .ref (m + 9), .int (nI (lz)), .ref (m + 10), .int (nI (ty)), .int (nI (he)), .int er, .int ea, .int fa, .ref (m + 11), .int (nI (cn))]))) (h9 : F (m + 9) = some (.inr (1, 40, fun b9 => .int (nI (ln b9))))) (hv : v < 100) (hlz : lz + 2 ≤ 40) : xM P yWn2 [.ref m, .int (nI (v))] F (z) 0 0 (fun r9 F9 z9 => ∃ ln1 : Nat → Nat, r9 = none ∧ z9 = z ∧ F9 (m) = some (.inl (10, [.int (nI (th)), .ref (m + 1), .int (nI (ch)), .int (nI (sv)), .int rs, .ref (m + 2), .ref (m + 3), .ref (m + 4), .ref (m + 5), .ref (m + 6), .int (nI (bm)), .ref (m + 7), .int (nI (dm)), .ref (m + 8), .ref (m + 9), .int (nI ((lz + dgs v))), .ref (m + 10), .int (nI (ty)), .int (nI (he)), .int er, .int ea, .int fa, .ref (m + 11), .int (nI (cn))])) ∧ F9 (m + 9) = some (.inr (1, 40, fun b9 => .int (nI (ln1 b9)))) ∧ (∀ j, j < lz + dgs v → ln1 j = xcat ln lz (dgc v) j) ∧ (∀ a9 : Nat, (a9 < m ∨ m + 1 ≤ a9) → (a9 < m + 9 ∨ m + 9 + 1 ≤ a9) → F9 a9 = F a9)) := by
  refine xM_v rfl (Nat.le_of_ble_eq_true rfl) (L0 := [some (.ref m), some (.int (nI (v)))]) rfl rfl fun Θ hC hin hret => ?_
  have hag : ∀ a9 : Nat, (a9 < m ∨ m + 1 ≤ a9) → (a9 < m + 9 ∨ m + 9 + 1 ≤ a9) → F a9 = F a9 := fun a9 _ _ => rfl
  refine x_iload_n hC d_MessageCoderModel_writesNumber_0 rfl rfl ?_
  refine x_bipush hC d_MessageCoderModel_writesNumber_1 (v := nI 9) (by decide) ?_
  refine x_icmpN_le hC d_MessageCoderModel_writesNumber_3 (tgt := 14) (by decide) (by omega) (by omega) (fun c_3 => ?_) (fun c_3 => ?_)
  · skip
    refine x_aload_n hC d_MessageCoderModel_writesNumber_14 rfl rfl ?_
    refine x_bipush hC d_MessageCoderModel_writesNumber_15 (v := nI 48) (by decide) ?_
    refine x_iload_n hC d_MessageCoderModel_writesNumber_17 rfl rfl ?_
    refine x_bipush hC d_MessageCoderModel_writesNumber_18 (v := nI 10) (by decide) ?_
    refine x_irem hC d_MessageCoderModel_writesNumber_20 (x_ne0 (by omega) (by omega)) (v := (nI ((v) % (10)))) (pk_rem (by omega) (by omega) (by omega)) ?_
    refine x_iadd hC d_MessageCoderModel_writesNumber_21 (v := (nI ((48) + ((v) % (10))))) (x_addN (by omega)) ?_
    refine x_callV hC kv_MessageCoderModel_233 (c_MessageCoderModel_writes (o0 := o0) (h9 := h9) (hc := by omega) (hlz := by omega)) o0 rfl rfl (by decide) rfl rfl rfl (Nat.le_of_ble_eq_true rfl) (by decide) d_MessageCoderModel_writesNumber_22 (fun r9 F9 z9 hp9 => ?_)
    obtain ⟨rfl, h9c, j0, j1, hag9⟩ := hp9
    rw [h9c]
    clear h9c z9
    generalize F9 = F1 at *
    have o0 : F1 (m) = some (.inl (10, [.int (nI (th)), .ref (m + 1), .int (nI (ch)), .int (nI (sv)), .int rs, .ref (m + 2), .ref (m + 3), .ref (m + 4), .ref (m + 5), .ref (m + 6), .int (nI (bm)), .ref (m + 7), .int (nI (dm)), .ref (m + 8), .ref (m + 9), .int (nI ((lz + 1))), .ref (m + 10), .int (nI (ty)), .int (nI (he)), .int er, .int ea, .int fa, .ref (m + 11), .int (nI (cn))])) := j0
    have h9 : F1 (m + 9) = some (.inr (1, 40, fun b9 => .int (nI ((updN ln lz ((48) + ((v) % (10)))) b9)))) := j1
    have hag : ∀ a9 : Nat, (a9 < m ∨ m + 1 ≤ a9) → (a9 < m + 9 ∨ m + 9 + 1 ≤ a9) → F1 a9 = F a9 := fun a9 q0 q1 => (hag9 a9 (by omega) (by omega)).trans (hag a9 q0 q1)
    have hg_22 := hag9
    clear hag9
    refine hret _ _ _ _ _ _ d_MessageCoderModel_writesNumber_25 (by decide) (by decide) ?_
    obtain ⟨e1, e2⟩ := wn_1 v (by omega)
    exact ⟨updN ln lz (48 + v % 10), rfl, rfl, by rw [e1]; exact o0, h9, fun j hj => by rw [e1] at hj; unfold xcat; by_cases e : j = lz; (rw [e, updN_eq, if_neg (Nat.lt_irrefl lz), Nat.sub_self, e2]); (rw [updN_ne e, if_pos (by omega)]), hag⟩
  · skip
    have hwb := wn_b (v / 10) (by omega)
    refine x_aload_n hC d_MessageCoderModel_writesNumber_6 rfl rfl ?_
    refine x_iload_n hC d_MessageCoderModel_writesNumber_7 rfl rfl ?_
    refine x_bipush hC d_MessageCoderModel_writesNumber_8 (v := nI 10) (by decide) ?_
    refine x_idiv hC d_MessageCoderModel_writesNumber_10 (x_ne0 (by omega) (by omega)) (v := (nI ((v) / (10)))) (pk_div (by omega) (by omega) (by omega)) ?_
    refine x_callV hC kWn1 (c_MessageCoderModel_writesNumber1 (o0 := o0) (h9 := h9) (hv := by omega) (hlz := by omega)) o0 rfl rfl (by decide) rfl rfl rfl (Nat.le_of_ble_eq_true rfl) (by decide) d_MessageCoderModel_writesNumber_11 (fun r9 F9 z9 hp9 => ?_)
    obtain ⟨ln1_11, rfl, h9c, j0, j1, pl_11, hag9⟩ := hp9
    rw [h9c]
    clear h9c z9
    generalize F9 = F2 at *
    have o0 : F2 (m) = some (.inl (10, [.int (nI (th)), .ref (m + 1), .int (nI (ch)), .int (nI (sv)), .int rs, .ref (m + 2), .ref (m + 3), .ref (m + 4), .ref (m + 5), .ref (m + 6), .int (nI (bm)), .ref (m + 7), .int (nI (dm)), .ref (m + 8), .ref (m + 9), .int (nI ((lz + dgs ((v) / (10))))), .ref (m + 10), .int (nI (ty)), .int (nI (he)), .int er, .int ea, .int fa, .ref (m + 11), .int (nI (cn))])) := j0
    have h9 : F2 (m + 9) = some (.inr (1, 40, fun b9 => .int (nI (ln1_11 b9)))) := j1
    have hag : ∀ a9 : Nat, (a9 < m ∨ m + 1 ≤ a9) → (a9 < m + 9 ∨ m + 9 + 1 ≤ a9) → F2 a9 = F a9 := fun a9 q0 q1 => (hag9 a9 (by omega) (by omega)).trans (hag a9 q0 q1)
    have hg_11 := hag9
    clear hag9
    refine x_aload_n hC d_MessageCoderModel_writesNumber_14 rfl rfl ?_
    refine x_bipush hC d_MessageCoderModel_writesNumber_15 (v := nI 48) (by decide) ?_
    refine x_iload_n hC d_MessageCoderModel_writesNumber_17 rfl rfl ?_
    refine x_bipush hC d_MessageCoderModel_writesNumber_18 (v := nI 10) (by decide) ?_
    refine x_irem hC d_MessageCoderModel_writesNumber_20 (x_ne0 (by omega) (by omega)) (v := (nI ((v) % (10)))) (pk_rem (by omega) (by omega) (by omega)) ?_
    refine x_iadd hC d_MessageCoderModel_writesNumber_21 (v := (nI ((48) + ((v) % (10))))) (x_addN (by omega)) ?_
    refine x_callV hC kv_MessageCoderModel_233 (c_MessageCoderModel_writes (o0 := o0) (h9 := h9) (hc := by omega) (hlz := by omega)) o0 rfl rfl (by decide) rfl rfl rfl (Nat.le_of_ble_eq_true rfl) (by decide) d_MessageCoderModel_writesNumber_22 (fun r9 F9 z9 hp9 => ?_)
    obtain ⟨rfl, h9c, j0, j1, hag9⟩ := hp9
    rw [h9c]
    clear h9c z9
    generalize F9 = F3 at *
    have o0 : F3 (m) = some (.inl (10, [.int (nI (th)), .ref (m + 1), .int (nI (ch)), .int (nI (sv)), .int rs, .ref (m + 2), .ref (m + 3), .ref (m + 4), .ref (m + 5), .ref (m + 6), .int (nI (bm)), .ref (m + 7), .int (nI (dm)), .ref (m + 8), .ref (m + 9), .int (nI (((lz + dgs ((v) / (10))) + 1))), .ref (m + 10), .int (nI (ty)), .int (nI (he)), .int er, .int ea, .int fa, .ref (m + 11), .int (nI (cn))])) := j0
    have h9 : F3 (m + 9) = some (.inr (1, 40, fun b9 => .int (nI ((updN ln1_11 (lz + dgs ((v) / (10))) ((48) + ((v) % (10)))) b9)))) := j1
    have hag : ∀ a9 : Nat, (a9 < m ∨ m + 1 ≤ a9) → (a9 < m + 9 ∨ m + 9 + 1 ≤ a9) → F3 a9 = F a9 := fun a9 q0 q1 => (hag9 a9 (by omega) (by omega)).trans (hag a9 q0 q1)
    have hg_22 := hag9
    clear hag9
    refine hret _ _ _ _ _ _ d_MessageCoderModel_writesNumber_25 (by decide) (by decide) ?_
    obtain ⟨e1, e2, e3⟩ := wn_2 v (by omega) (by omega)
    exact ⟨updN ln1_11 (lz + dgs (v / 10)) (48 + v % 10), rfl, rfl, by rw [e1, ← Nat.add_assoc]; exact o0, h9, fun j hj => by rw [e1] at hj; by_cases e : j = lz + dgs (v / 10); (rw [e, updN_eq]; unfold xcat; rw [if_neg (by omega), show lz + dgs (v / 10) - lz = dgs (v / 10) by omega, e3]); (rw [updN_ne e, pl_11 j (by omega)]; unfold xcat; by_cases c : j < lz; (rw [if_pos c, if_pos c]); (rw [if_neg c, if_neg c, e2 _ (by omega)])), hag⟩

set_option maxHeartbeats 4000000 in
set_option maxRecDepth 20000 in
theorem c_MessageCoderModel_writesNumber {P : xP} {F : xF} {z : Nat} {m : Nat} {th : Nat} {ch : Nat} {sv : Nat} {rs : Int32} {bm : Nat} {dm : Nat} {lz : Nat} {ty : Nat} {he : Nat} {er : Int32} {ea : Int32} {fa : Int32} {cn : Nat} {ln : Nat → Nat} {v : Nat} (o0 : F (m) = some (.inl (10, [.int (nI (th)), .ref (m + 1), .int (nI (ch)), .int (nI (sv)), .int rs, .ref (m + 2), .ref (m + 3), .ref (m + 4), .ref (m + 5), .ref (m + 6), .int (nI (bm)), .ref (m + 7), .int (nI (dm)), .ref (m + 8), .ref (m + 9), .int (nI (lz)), .ref (m + 10), .int (nI (ty)), .int (nI (he)), .int er, .int ea, .int fa, .ref (m + 11), .int (nI (cn))]))) (h9 : F (m + 9) = some (.inr (1, 40, fun b9 => .int (nI (ln b9))))) (hv : v < 1000) (hlz : lz + 3 ≤ 40) : xM P xy_MessageCoderModel_writesNumber [.ref m, .int (nI (v))] F (z) 0 0 (fun r9 F9 z9 => ∃ ln1 : Nat → Nat, r9 = none ∧ z9 = z ∧ F9 (m) = some (.inl (10, [.int (nI (th)), .ref (m + 1), .int (nI (ch)), .int (nI (sv)), .int rs, .ref (m + 2), .ref (m + 3), .ref (m + 4), .ref (m + 5), .ref (m + 6), .int (nI (bm)), .ref (m + 7), .int (nI (dm)), .ref (m + 8), .ref (m + 9), .int (nI ((lz + dgs v))), .ref (m + 10), .int (nI (ty)), .int (nI (he)), .int er, .int ea, .int fa, .ref (m + 11), .int (nI (cn))])) ∧ F9 (m + 9) = some (.inr (1, 40, fun b9 => .int (nI (ln1 b9)))) ∧ (∀ j, j < lz + dgs v → ln1 j = xcat ln lz (dgc v) j) ∧ (∀ a9 : Nat, (a9 < m ∨ m + 1 ≤ a9) → (a9 < m + 9 ∨ m + 9 + 1 ≤ a9) → F9 a9 = F a9)) := by
  refine xM_v rfl (Nat.le_of_ble_eq_true rfl) (L0 := [some (.ref m), some (.int (nI (v)))]) rfl rfl fun Θ hC hin hret => ?_
  have hag : ∀ a9 : Nat, (a9 < m ∨ m + 1 ≤ a9) → (a9 < m + 9 ∨ m + 9 + 1 ≤ a9) → F a9 = F a9 := fun a9 _ _ => rfl
  refine x_iload_n hC d_MessageCoderModel_writesNumber_0 rfl rfl ?_
  refine x_bipush hC d_MessageCoderModel_writesNumber_1 (v := nI 9) (by decide) ?_
  refine x_icmpN_le hC d_MessageCoderModel_writesNumber_3 (tgt := 14) (by decide) (by omega) (by omega) (fun c_3 => ?_) (fun c_3 => ?_)
  · skip
    refine x_aload_n hC d_MessageCoderModel_writesNumber_14 rfl rfl ?_
    refine x_bipush hC d_MessageCoderModel_writesNumber_15 (v := nI 48) (by decide) ?_
    refine x_iload_n hC d_MessageCoderModel_writesNumber_17 rfl rfl ?_
    refine x_bipush hC d_MessageCoderModel_writesNumber_18 (v := nI 10) (by decide) ?_
    refine x_irem hC d_MessageCoderModel_writesNumber_20 (x_ne0 (by omega) (by omega)) (v := (nI ((v) % (10)))) (pk_rem (by omega) (by omega) (by omega)) ?_
    refine x_iadd hC d_MessageCoderModel_writesNumber_21 (v := (nI ((48) + ((v) % (10))))) (x_addN (by omega)) ?_
    refine x_callV hC kv_MessageCoderModel_233 (c_MessageCoderModel_writes (o0 := o0) (h9 := h9) (hc := by omega) (hlz := by omega)) o0 rfl rfl (by decide) rfl rfl rfl (Nat.le_of_ble_eq_true rfl) (by decide) d_MessageCoderModel_writesNumber_22 (fun r9 F9 z9 hp9 => ?_)
    obtain ⟨rfl, h9c, j0, j1, hag9⟩ := hp9
    rw [h9c]
    clear h9c z9
    generalize F9 = F1 at *
    have o0 : F1 (m) = some (.inl (10, [.int (nI (th)), .ref (m + 1), .int (nI (ch)), .int (nI (sv)), .int rs, .ref (m + 2), .ref (m + 3), .ref (m + 4), .ref (m + 5), .ref (m + 6), .int (nI (bm)), .ref (m + 7), .int (nI (dm)), .ref (m + 8), .ref (m + 9), .int (nI ((lz + 1))), .ref (m + 10), .int (nI (ty)), .int (nI (he)), .int er, .int ea, .int fa, .ref (m + 11), .int (nI (cn))])) := j0
    have h9 : F1 (m + 9) = some (.inr (1, 40, fun b9 => .int (nI ((updN ln lz ((48) + ((v) % (10)))) b9)))) := j1
    have hag : ∀ a9 : Nat, (a9 < m ∨ m + 1 ≤ a9) → (a9 < m + 9 ∨ m + 9 + 1 ≤ a9) → F1 a9 = F a9 := fun a9 q0 q1 => (hag9 a9 (by omega) (by omega)).trans (hag a9 q0 q1)
    have hg_22 := hag9
    clear hag9
    refine hret _ _ _ _ _ _ d_MessageCoderModel_writesNumber_25 (by decide) (by decide) ?_
    obtain ⟨e1, e2⟩ := wn_1 v (by omega)
    exact ⟨updN ln lz (48 + v % 10), rfl, rfl, by rw [e1]; exact o0, h9, fun j hj => by rw [e1] at hj; unfold xcat; by_cases e : j = lz; (rw [e, updN_eq, if_neg (Nat.lt_irrefl lz), Nat.sub_self, e2]); (rw [updN_ne e, if_pos (by omega)]), hag⟩
  · skip
    have hwb := wn_b (v / 10) (by omega)
    refine x_aload_n hC d_MessageCoderModel_writesNumber_6 rfl rfl ?_
    refine x_iload_n hC d_MessageCoderModel_writesNumber_7 rfl rfl ?_
    refine x_bipush hC d_MessageCoderModel_writesNumber_8 (v := nI 10) (by decide) ?_
    refine x_idiv hC d_MessageCoderModel_writesNumber_10 (x_ne0 (by omega) (by omega)) (v := (nI ((v) / (10)))) (pk_div (by omega) (by omega) (by omega)) ?_
    refine x_callV hC kWn2 (c_MessageCoderModel_writesNumber2 (o0 := o0) (h9 := h9) (hv := by omega) (hlz := by omega)) o0 rfl rfl (by decide) rfl rfl rfl (Nat.le_of_ble_eq_true rfl) (by decide) d_MessageCoderModel_writesNumber_11 (fun r9 F9 z9 hp9 => ?_)
    obtain ⟨ln1_11, rfl, h9c, j0, j1, pl_11, hag9⟩ := hp9
    rw [h9c]
    clear h9c z9
    generalize F9 = F2 at *
    have o0 : F2 (m) = some (.inl (10, [.int (nI (th)), .ref (m + 1), .int (nI (ch)), .int (nI (sv)), .int rs, .ref (m + 2), .ref (m + 3), .ref (m + 4), .ref (m + 5), .ref (m + 6), .int (nI (bm)), .ref (m + 7), .int (nI (dm)), .ref (m + 8), .ref (m + 9), .int (nI ((lz + dgs ((v) / (10))))), .ref (m + 10), .int (nI (ty)), .int (nI (he)), .int er, .int ea, .int fa, .ref (m + 11), .int (nI (cn))])) := j0
    have h9 : F2 (m + 9) = some (.inr (1, 40, fun b9 => .int (nI (ln1_11 b9)))) := j1
    have hag : ∀ a9 : Nat, (a9 < m ∨ m + 1 ≤ a9) → (a9 < m + 9 ∨ m + 9 + 1 ≤ a9) → F2 a9 = F a9 := fun a9 q0 q1 => (hag9 a9 (by omega) (by omega)).trans (hag a9 q0 q1)
    have hg_11 := hag9
    clear hag9
    refine x_aload_n hC d_MessageCoderModel_writesNumber_14 rfl rfl ?_
    refine x_bipush hC d_MessageCoderModel_writesNumber_15 (v := nI 48) (by decide) ?_
    refine x_iload_n hC d_MessageCoderModel_writesNumber_17 rfl rfl ?_
    refine x_bipush hC d_MessageCoderModel_writesNumber_18 (v := nI 10) (by decide) ?_
    refine x_irem hC d_MessageCoderModel_writesNumber_20 (x_ne0 (by omega) (by omega)) (v := (nI ((v) % (10)))) (pk_rem (by omega) (by omega) (by omega)) ?_
    refine x_iadd hC d_MessageCoderModel_writesNumber_21 (v := (nI ((48) + ((v) % (10))))) (x_addN (by omega)) ?_
    refine x_callV hC kv_MessageCoderModel_233 (c_MessageCoderModel_writes (o0 := o0) (h9 := h9) (hc := by omega) (hlz := by omega)) o0 rfl rfl (by decide) rfl rfl rfl (Nat.le_of_ble_eq_true rfl) (by decide) d_MessageCoderModel_writesNumber_22 (fun r9 F9 z9 hp9 => ?_)
    obtain ⟨rfl, h9c, j0, j1, hag9⟩ := hp9
    rw [h9c]
    clear h9c z9
    generalize F9 = F3 at *
    have o0 : F3 (m) = some (.inl (10, [.int (nI (th)), .ref (m + 1), .int (nI (ch)), .int (nI (sv)), .int rs, .ref (m + 2), .ref (m + 3), .ref (m + 4), .ref (m + 5), .ref (m + 6), .int (nI (bm)), .ref (m + 7), .int (nI (dm)), .ref (m + 8), .ref (m + 9), .int (nI (((lz + dgs ((v) / (10))) + 1))), .ref (m + 10), .int (nI (ty)), .int (nI (he)), .int er, .int ea, .int fa, .ref (m + 11), .int (nI (cn))])) := j0
    have h9 : F3 (m + 9) = some (.inr (1, 40, fun b9 => .int (nI ((updN ln1_11 (lz + dgs ((v) / (10))) ((48) + ((v) % (10)))) b9)))) := j1
    have hag : ∀ a9 : Nat, (a9 < m ∨ m + 1 ≤ a9) → (a9 < m + 9 ∨ m + 9 + 1 ≤ a9) → F3 a9 = F a9 := fun a9 q0 q1 => (hag9 a9 (by omega) (by omega)).trans (hag a9 q0 q1)
    have hg_22 := hag9
    clear hag9
    refine hret _ _ _ _ _ _ d_MessageCoderModel_writesNumber_25 (by decide) (by decide) ?_
    obtain ⟨e1, e2, e3⟩ := wn_2 v (by omega) (by omega)
    exact ⟨updN ln1_11 (lz + dgs (v / 10)) (48 + v % 10), rfl, rfl, by rw [e1, ← Nat.add_assoc]; exact o0, h9, fun j hj => by rw [e1] at hj; by_cases e : j = lz + dgs (v / 10); (rw [e, updN_eq]; unfold xcat; rw [if_neg (by omega), show lz + dgs (v / 10) - lz = dgs (v / 10) by omega, e3]); (rw [updN_ne e, pl_11 j (by omega)]; unfold xcat; by_cases c : j < lz; (rw [if_pos c, if_pos c]); (rw [if_neg c, if_neg c, e2 _ (by omega)])), hag⟩

theorem d_MessageCoderModel_formatMessage_0 : decode prog_14_method_102_code 0 = .ok (.aload_n 0, 1) := by decide +kernel
theorem d_MessageCoderModel_formatMessage_1 : decode prog_14_method_102_code 1 = .ok (.aload_n 0, 1) := by decide +kernel
theorem d_MessageCoderModel_formatMessage_2 : decode prog_14_method_102_code 2 = .ok (.iload_n 1, 1) := by decide +kernel
theorem d_MessageCoderModel_formatMessage_3 : decode prog_14_method_102_code 3 = .ok (.invokevirtual 142, 3) := by decide +kernel
theorem d_MessageCoderModel_formatMessage_6 : decode prog_14_method_102_code 6 = .ok (.invokevirtual 195, 3) := by decide +kernel
theorem d_MessageCoderModel_formatMessage_9 : decode prog_14_method_102_code 9 = .ok (.ifCond .ne 5, 3) := by decide +kernel
theorem d_MessageCoderModel_formatMessage_12 : decode prog_14_method_102_code 12 = .ok (.iconst 0, 1) := by decide +kernel
theorem d_MessageCoderModel_formatMessage_13 : decode prog_14_method_102_code 13 = .ok (.ireturn, 1) := by decide +kernel
theorem d_MessageCoderModel_formatMessage_14 : decode prog_14_method_102_code 14 = .ok (.aload_n 0, 1) := by decide +kernel
theorem d_MessageCoderModel_formatMessage_15 : decode prog_14_method_102_code 15 = .ok (.iload_n 1, 1) := by decide +kernel
theorem d_MessageCoderModel_formatMessage_16 : decode prog_14_method_102_code 16 = .ok (.invokevirtual 85, 3) := by decide +kernel
theorem d_MessageCoderModel_formatMessage_19 : decode prog_14_method_102_code 19 = .ok (.istore_n 2, 1) := by decide +kernel
theorem d_MessageCoderModel_formatMessage_20 : decode prog_14_method_102_code 20 = .ok (.aload_n 0, 1) := by decide +kernel
theorem d_MessageCoderModel_formatMessage_21 : decode prog_14_method_102_code 21 = .ok (.iconst 0, 1) := by decide +kernel
theorem d_MessageCoderModel_formatMessage_22 : decode prog_14_method_102_code 22 = .ok (.putfield 227, 3) := by decide +kernel
theorem d_MessageCoderModel_formatMessage_25 : decode prog_14_method_102_code 25 = .ok (.aload_n 0, 1) := by decide +kernel
theorem d_MessageCoderModel_formatMessage_26 : decode prog_14_method_102_code 26 = .ok (.iload_n 1, 1) := by decide +kernel
theorem d_MessageCoderModel_formatMessage_27 : decode prog_14_method_102_code 27 = .ok (.invokevirtual 230, 3) := by decide +kernel
theorem d_MessageCoderModel_formatMessage_30 : decode prog_14_method_102_code 30 = .ok (.aload_n 0, 1) := by decide +kernel
theorem d_MessageCoderModel_formatMessage_31 : decode prog_14_method_102_code 31 = .ok (.bipush 33, 2) := by decide +kernel
theorem d_MessageCoderModel_formatMessage_33 : decode prog_14_method_102_code 33 = .ok (.invokevirtual 233, 3) := by decide +kernel
theorem d_MessageCoderModel_formatMessage_36 : decode prog_14_method_102_code 36 = .ok (.aload_n 0, 1) := by decide +kernel
theorem d_MessageCoderModel_formatMessage_37 : decode prog_14_method_102_code 37 = .ok (.aload_n 0, 1) := by decide +kernel
theorem d_MessageCoderModel_formatMessage_38 : decode prog_14_method_102_code 38 = .ok (.iload_n 2, 1) := by decide +kernel
theorem d_MessageCoderModel_formatMessage_39 : decode prog_14_method_102_code 39 = .ok (.iconst 1, 1) := by decide +kernel
theorem d_MessageCoderModel_formatMessage_40 : decode prog_14_method_102_code 40 = .ok (.invokevirtual 81, 3) := by decide +kernel
theorem d_MessageCoderModel_formatMessage_43 : decode prog_14_method_102_code 43 = .ok (.invokevirtual 230, 3) := by decide +kernel
theorem d_MessageCoderModel_formatMessage_46 : decode prog_14_method_102_code 46 = .ok (.aload_n 0, 1) := by decide +kernel
theorem d_MessageCoderModel_formatMessage_47 : decode prog_14_method_102_code 47 = .ok (.bipush 58, 2) := by decide +kernel
theorem d_MessageCoderModel_formatMessage_49 : decode prog_14_method_102_code 49 = .ok (.invokevirtual 233, 3) := by decide +kernel
theorem d_MessageCoderModel_formatMessage_52 : decode prog_14_method_102_code 52 = .ok (.iconst 0, 1) := by decide +kernel
theorem d_MessageCoderModel_formatMessage_53 : decode prog_14_method_102_code 53 = .ok (.istore_n 3, 1) := by decide +kernel
theorem d_MessageCoderModel_formatMessage_54 : decode prog_14_method_102_code 54 = .ok (.iload_n 3, 1) := by decide +kernel
theorem d_MessageCoderModel_formatMessage_55 : decode prog_14_method_102_code 55 = .ok (.aload_n 0, 1) := by decide +kernel
theorem d_MessageCoderModel_formatMessage_56 : decode prog_14_method_102_code 56 = .ok (.iload_n 2, 1) := by decide +kernel
theorem d_MessageCoderModel_formatMessage_57 : decode prog_14_method_102_code 57 = .ok (.iconst 2, 1) := by decide +kernel
theorem d_MessageCoderModel_formatMessage_58 : decode prog_14_method_102_code 58 = .ok (.invokevirtual 81, 3) := by decide +kernel
theorem d_MessageCoderModel_formatMessage_61 : decode prog_14_method_102_code 61 = .ok (.if_icmp .ge 24, 3) := by decide +kernel
theorem d_MessageCoderModel_formatMessage_64 : decode prog_14_method_102_code 64 = .ok (.aload_n 0, 1) := by decide +kernel
theorem d_MessageCoderModel_formatMessage_65 : decode prog_14_method_102_code 65 = .ok (.bipush 97, 2) := by decide +kernel
theorem d_MessageCoderModel_formatMessage_67 : decode prog_14_method_102_code 67 = .ok (.aload_n 0, 1) := by decide +kernel
theorem d_MessageCoderModel_formatMessage_68 : decode prog_14_method_102_code 68 = .ok (.iload_n 2, 1) := by decide +kernel
theorem d_MessageCoderModel_formatMessage_69 : decode prog_14_method_102_code 69 = .ok (.iconst 3, 1) := by decide +kernel
theorem d_MessageCoderModel_formatMessage_70 : decode prog_14_method_102_code 70 = .ok (.iload_n 3, 1) := by decide +kernel
theorem d_MessageCoderModel_formatMessage_71 : decode prog_14_method_102_code 71 = .ok (.iadd, 1) := by decide +kernel
theorem d_MessageCoderModel_formatMessage_72 : decode prog_14_method_102_code 72 = .ok (.invokevirtual 81, 3) := by decide +kernel
theorem d_MessageCoderModel_formatMessage_75 : decode prog_14_method_102_code 75 = .ok (.iadd, 1) := by decide +kernel
theorem d_MessageCoderModel_formatMessage_76 : decode prog_14_method_102_code 76 = .ok (.invokevirtual 233, 3) := by decide +kernel
theorem d_MessageCoderModel_formatMessage_79 : decode prog_14_method_102_code 79 = .ok (.iinc 3 1, 3) := by decide +kernel
theorem d_MessageCoderModel_formatMessage_82 : decode prog_14_method_102_code 82 = .ok (.goto (-28), 3) := by decide +kernel
theorem d_MessageCoderModel_formatMessage_85 : decode prog_14_method_102_code 85 = .ok (.aload_n 0, 1) := by decide +kernel
theorem d_MessageCoderModel_formatMessage_86 : decode prog_14_method_102_code 86 = .ok (.getfield 227, 3) := by decide +kernel
theorem d_MessageCoderModel_formatMessage_89 : decode prog_14_method_102_code 89 = .ok (.ireturn, 1) := by decide +kernel
set_option maxHeartbeats 4000000 in
set_option maxRecDepth 20000 in
theorem c_MessageCoderModel_formatMessage {P : xP} {F : xF} {z : Nat} {m : Nat} {th0 : Nat} {M : mcS} {a : Int32} (hD : xMD F (m) (th0) (M)) (hI : mInv M) : xM P xy_MessageCoderModel_formatMessage [.ref m, .int a] F (z) 0 0 (fun r9 F9 z9 => r9 = some (.int (nI (if mOk M.1 a then dgs (mAt M.1 a).1 + 1 + dgs (mAt M.1 a).2.1 + 1 + (mAt M.1 a).2.2.1 else 0))) ∧ z9 = z ∧ xMD F9 (m) ((if mOk M.1 a then 0 else 1)) ((if mOk M.1 a then setL M (dgs (mAt M.1 a).1 + 1 + dgs (mAt M.1 a).2.1 + 1 + (mAt M.1 a).2.2.1) (fmS (mAt M.1 a)) else M)) ∧ (∀ a9 : Nat, (a9 < m ∨ m + 12 ≤ a9) → F9 a9 = F a9)) := by
  refine xM_i .int rfl (Nat.le_of_ble_eq_true rfl) (L0 := [some (.ref m), some (.int a), none, none]) rfl rfl fun Θ hC hret => ?_
  have hag : ∀ a9 : Nat, (a9 < m ∨ m + 12 ≤ a9) → F a9 = F a9 := fun a9 _ => rfl
  obtain ⟨A, S, past, ⟨pn, psg⟩, ⟨lnn, lsg⟩, sv, pp, un, ep, fc⟩ := M
  obtain ⟨rs, er, bm, dm, he, cn, g, l2, v3, r4, w5, b6, d7, b8, ln, ip, cs, o0, ga, h2, h3, h4, h5, h6, h7, h8, h9, hi, hcm, hg, hln, hip⟩ := id hD
  obtain ⟨iA, iP, iS, hu8, hup, hs1, hty, hlz, hic, hlc⟩ := id hI
  have o0 : F (m) = some (.inl (10, [.int (nI (th0)), .ref (m + 1), .int (nI (un)), .int (nI (sv)), .int rs, .ref (m + 2), .ref (m + 3), .ref (m + 4), .ref (m + 5), .ref (m + 6), .int (nI (bm)), .ref (m + 7), .int (nI (dm)), .ref (m + 8), .ref (m + 9), .int (nI (lnn)), .ref (m + 10), .int (nI (pn)), .int (nI (he)), .int er, .int ep, .int fc, .ref (m + 11), .int (nI (cn))])) := o0
  have ga : F (m + 1) = some (.inr (0, 4730, fun b9 => .int (nI (g b9)))) := ga
  have h2 : F (m + 2) = some (.inr (0, 8, fun b9 => .int (nI (l2 b9)))) := h2
  have h3 : F (m + 3) = some (.inr (0, 8, fun b9 => .int (nI (v3 b9)))) := h3
  have h4 : F (m + 4) = some (.inr (0, 8, fun b9 => .int (nI (r4 b9)))) := h4
  have h5 : F (m + 5) = some (.inr (0, 8, fun b9 => .int (nI (w5 b9)))) := h5
  have h6 : F (m + 6) = some (.inr (0, 112, fun b9 => .int (nI (b6 b9)))) := h6
  have h7 : F (m + 7) = some (.inr (0, 16, fun b9 => .int (nI (d7 b9)))) := h7
  have h8 : F (m + 8) = some (.inr (0, 17, fun b9 => .int (nI (b8 b9)))) := h8
  have h9 : F (m + 9) = some (.inr (1, 40, fun b9 => .int (nI (ln b9)))) := h9
  have hi : F (m + 10) = some (.inr (1, 60, fun b9 => .int (nI (ip b9)))) := hi
  have hcm : F (m + 11) = some (.inr (0, 183, fun b9 => .int (nI (cs b9)))) := hcm
  have hln : ∀ j, j < lnn → ln j = lsg j := hln
  have hip : ∀ j, j < pn → ip j = psg j := hip
  have iA : aInv A := iA
  have hu8 : un ≤ 8 := hu8
  have hup : un ≤ pp := hup
  have hs1 : sv ≤ 1 := hs1
  have hty : pn ≤ 60 := hty
  have hlz : lnn ≤ 32 := hlz
  have hr : rRow g A := hg.1
  have hA : aInv A := iA
  obtain ⟨⟨q0, q1, q2, q3, q4, q5, q6, q7, q9⟩, qw, qd, qm, qf, qx, qb⟩ := id hr
  obtain ⟨⟨u1, u2, u3, u4, u5⟩, uw, ud, um, uo, ut, ux, ub, un9⟩ := id hA
  refine x_aload_n hC d_MessageCoderModel_formatMessage_0 rfl rfl ?_
  refine x_aload_n hC d_MessageCoderModel_formatMessage_1 rfl rfl ?_
  refine x_iload_n hC d_MessageCoderModel_formatMessage_2 rfl rfl ?_
  refine x_callV hC kv_MessageCoderModel_142 (c_MessageCoderModel_isThere (o0 := o0) (ga := ga) (hr := hr) (hA := hA)) o0 rfl rfl (by decide) rfl rfl rfl (Nat.le_of_ble_eq_true rfl) (by decide) d_MessageCoderModel_formatMessage_3 (fun r9 F9 z9 hp9 => ?_)
  obtain ⟨rfl, h9b, h9c⟩ := hp9
  rw [h9b, h9c]
  clear h9b h9c F9 z9
  refine x_callV hC kv_MessageCoderModel_195 (c_MessageCoderModel_isFine (o0 := o0)) o0 rfl rfl (by decide) rfl rfl rfl (Nat.le_of_ble_eq_true rfl) (by decide) d_MessageCoderModel_formatMessage_6 (fun r9 F9 z9 hp9 => ?_)
  obtain ⟨rfl, h9c, j0, hag9⟩ := hp9
  rw [h9c]
  clear h9c z9
  generalize F9 = F1 at *
  have ga : F1 (m + 1) = some (.inr (0, 4730, fun b9 => .int (nI (g b9)))) := (hag9 _ (by omega)).trans ga
  have h2 : F1 (m + 2) = some (.inr (0, 8, fun b9 => .int (nI (l2 b9)))) := (hag9 _ (by omega)).trans h2
  have h3 : F1 (m + 3) = some (.inr (0, 8, fun b9 => .int (nI (v3 b9)))) := (hag9 _ (by omega)).trans h3
  have h4 : F1 (m + 4) = some (.inr (0, 8, fun b9 => .int (nI (r4 b9)))) := (hag9 _ (by omega)).trans h4
  have h5 : F1 (m + 5) = some (.inr (0, 8, fun b9 => .int (nI (w5 b9)))) := (hag9 _ (by omega)).trans h5
  have h6 : F1 (m + 6) = some (.inr (0, 112, fun b9 => .int (nI (b6 b9)))) := (hag9 _ (by omega)).trans h6
  have h7 : F1 (m + 7) = some (.inr (0, 16, fun b9 => .int (nI (d7 b9)))) := (hag9 _ (by omega)).trans h7
  have h8 : F1 (m + 8) = some (.inr (0, 17, fun b9 => .int (nI (b8 b9)))) := (hag9 _ (by omega)).trans h8
  have h9 : F1 (m + 9) = some (.inr (1, 40, fun b9 => .int (nI (ln b9)))) := (hag9 _ (by omega)).trans h9
  have hi : F1 (m + 10) = some (.inr (1, 60, fun b9 => .int (nI (ip b9)))) := (hag9 _ (by omega)).trans hi
  have hcm : F1 (m + 11) = some (.inr (0, 183, fun b9 => .int (nI (cs b9)))) := (hag9 _ (by omega)).trans hcm
  have o0 : F1 (m) = some (.inl (10, [.int (nI ((if (mOk A a) then 0 else 1))), .ref (m + 1), .int (nI (un)), .int (nI (sv)), .int rs, .ref (m + 2), .ref (m + 3), .ref (m + 4), .ref (m + 5), .ref (m + 6), .int (nI (bm)), .ref (m + 7), .int (nI (dm)), .ref (m + 8), .ref (m + 9), .int (nI (lnn)), .ref (m + 10), .int (nI (pn)), .int (nI (he)), .int er, .int ep, .int fc, .ref (m + 11), .int (nI (cn))])) := j0
  have hag : ∀ a9 : Nat, (a9 < m ∨ m + 12 ≤ a9) → F1 a9 = F a9 := fun a9 q0 => (hag9 a9 (by omega)).trans (hag a9 q0)
  have hg_6 := hag9
  clear hag9
  refine x_ifB_ne hC d_MessageCoderModel_formatMessage_9 (tgt := 14) (by decide) (fun c_9 => ?_) (fun c_9 => ?_)
  · skip
    have hpa : mIx A a < A.2.2.1.1 := c_9
    obtain ⟨hid, ⟨hp1, hp5⟩, hle, hsy⟩ := um _ hpa
    have hda := (wn_b ((A.2.2.1.2.2 (mIx A a)).1) (by omega))
    have hd3 := dgs_3 ((A.2.2.1.2.2 (mIx A a)).1)
    have hd2 := dgs_3 ((A.2.2.1.2.2 (mIx A a)).2.1)
    have hida : nI ((A.2.2.1.2.2 (mIx A a)).1) = a := of_decide_eq_true (fsN_sp (P := fun i => decide (nI (A.2.2.1.2.2 i).1 = a)) A.2.2.1.1 hpa).1
    refine x_aload_n hC d_MessageCoderModel_formatMessage_14 rfl rfl ?_
    refine x_iload_n hC d_MessageCoderModel_formatMessage_15 rfl rfl ?_
    refine x_callV hC kv_MessageCoderModel_85 (c_MessageCoderModel_place (o0 := o0) (ga := ga) (hr := hr) (hA := hA)) o0 rfl rfl (by decide) rfl rfl rfl (Nat.le_of_ble_eq_true rfl) (by decide) d_MessageCoderModel_formatMessage_16 (fun r9 F9 z9 hp9 => ?_)
    obtain ⟨rfl, h9b, h9c⟩ := hp9
    rw [h9b, h9c]
    clear h9b h9c F9 z9
    refine x_top (v := (nI (mIx A a))) (plc_of hpa) ?_
    refine x_istore_n hC d_MessageCoderModel_formatMessage_19 rfl (Nat.le_of_ble_eq_true rfl) (L1 := [some (.ref m), some (.int a), some (.int (nI (mIx A a))), none]) rfl ?_
    refine x_aload_n hC d_MessageCoderModel_formatMessage_20 rfl rfl ?_
    refine x_iconst hC d_MessageCoderModel_formatMessage_21 (v := nI 0) (by decide) ?_
    refine x_putf hC kf_MessageCoderModel_227 o0 (Nat.le_of_ble_eq_true rfl) rfl rfl d_MessageCoderModel_formatMessage_22 (fs1 := [.int (nI ((if (mOk A a) then 0 else 1))), .ref (m + 1), .int (nI (un)), .int (nI (sv)), .int rs, .ref (m + 2), .ref (m + 3), .ref (m + 4), .ref (m + 5), .ref (m + 6), .int (nI (bm)), .ref (m + 7), .int (nI (dm)), .ref (m + 8), .ref (m + 9), .int (nI 0), .ref (m + 10), .int (nI (pn)), .int (nI (he)), .int er, .int ep, .int fc, .ref (m + 11), .int (nI (cn))]) rfl ?_
    generalize e2 : xup F1 (m) (.inl (10, [.int (nI ((if (mOk A a) then 0 else 1))), .ref (m + 1), .int (nI (un)), .int (nI (sv)), .int rs, .ref (m + 2), .ref (m + 3), .ref (m + 4), .ref (m + 5), .ref (m + 6), .int (nI (bm)), .ref (m + 7), .int (nI (dm)), .ref (m + 8), .ref (m + 9), .int (nI 0), .ref (m + 10), .int (nI (pn)), .int (nI (he)), .int er, .int ep, .int fc, .ref (m + 11), .int (nI (cn))])) = F2
    have ga : F2 (m + 1) = some (.inr (0, 4730, fun b9 => .int (nI (g b9)))) := by rw [← e2]; exact (xup_ne (by omega)).trans ga
    have h2 : F2 (m + 2) = some (.inr (0, 8, fun b9 => .int (nI (l2 b9)))) := by rw [← e2]; exact (xup_ne (by omega)).trans h2
    have h3 : F2 (m + 3) = some (.inr (0, 8, fun b9 => .int (nI (v3 b9)))) := by rw [← e2]; exact (xup_ne (by omega)).trans h3
    have h4 : F2 (m + 4) = some (.inr (0, 8, fun b9 => .int (nI (r4 b9)))) := by rw [← e2]; exact (xup_ne (by omega)).trans h4
    have h5 : F2 (m + 5) = some (.inr (0, 8, fun b9 => .int (nI (w5 b9)))) := by rw [← e2]; exact (xup_ne (by omega)).trans h5
    have h6 : F2 (m + 6) = some (.inr (0, 112, fun b9 => .int (nI (b6 b9)))) := by rw [← e2]; exact (xup_ne (by omega)).trans h6
    have h7 : F2 (m + 7) = some (.inr (0, 16, fun b9 => .int (nI (d7 b9)))) := by rw [← e2]; exact (xup_ne (by omega)).trans h7
    have h8 : F2 (m + 8) = some (.inr (0, 17, fun b9 => .int (nI (b8 b9)))) := by rw [← e2]; exact (xup_ne (by omega)).trans h8
    have h9 : F2 (m + 9) = some (.inr (1, 40, fun b9 => .int (nI (ln b9)))) := by rw [← e2]; exact (xup_ne (by omega)).trans h9
    have hi : F2 (m + 10) = some (.inr (1, 60, fun b9 => .int (nI (ip b9)))) := by rw [← e2]; exact (xup_ne (by omega)).trans hi
    have hcm : F2 (m + 11) = some (.inr (0, 183, fun b9 => .int (nI (cs b9)))) := by rw [← e2]; exact (xup_ne (by omega)).trans hcm
    have o0 : F2 (m) = some (.inl (10, [.int (nI ((if (mOk A a) then 0 else 1))), .ref (m + 1), .int (nI (un)), .int (nI (sv)), .int rs, .ref (m + 2), .ref (m + 3), .ref (m + 4), .ref (m + 5), .ref (m + 6), .int (nI (bm)), .ref (m + 7), .int (nI (dm)), .ref (m + 8), .ref (m + 9), .int (nI 0), .ref (m + 10), .int (nI (pn)), .int (nI (he)), .int er, .int ep, .int fc, .ref (m + 11), .int (nI (cn))])) := by rw [← e2]; exact xup_eq
    have hag : ∀ a9 : Nat, (a9 < m ∨ m + 12 ≤ a9) → F2 a9 = F a9 := fun a9 q0 => by rw [← e2]; exact (xup_ne (by omega)).trans (hag a9 q0)
    refine x_aload_n hC d_MessageCoderModel_formatMessage_25 rfl rfl ?_
    refine x_iload_n hC d_MessageCoderModel_formatMessage_26 rfl rfl ?_
    refine x_top (v := (nI ((A.2.2.1.2.2 (mIx A a)).1))) hida.symm ?_
    refine x_callV hC kv_MessageCoderModel_230 (c_MessageCoderModel_writesNumber (o0 := o0) (h9 := h9) (hv := by omega) (hlz := by omega)) o0 rfl rfl (by decide) rfl rfl rfl (Nat.le_of_ble_eq_true rfl) (by decide) d_MessageCoderModel_formatMessage_27 (fun r9 F9 z9 hp9 => ?_)
    obtain ⟨ln1_27, rfl, h9c, j0, j1, pl_27, hag9⟩ := hp9
    rw [h9c]
    clear h9c z9
    generalize F9 = F3 at *
    have ga : F3 (m + 1) = some (.inr (0, 4730, fun b9 => .int (nI (g b9)))) := (hag9 _ (by omega) (by omega)).trans ga
    have h2 : F3 (m + 2) = some (.inr (0, 8, fun b9 => .int (nI (l2 b9)))) := (hag9 _ (by omega) (by omega)).trans h2
    have h3 : F3 (m + 3) = some (.inr (0, 8, fun b9 => .int (nI (v3 b9)))) := (hag9 _ (by omega) (by omega)).trans h3
    have h4 : F3 (m + 4) = some (.inr (0, 8, fun b9 => .int (nI (r4 b9)))) := (hag9 _ (by omega) (by omega)).trans h4
    have h5 : F3 (m + 5) = some (.inr (0, 8, fun b9 => .int (nI (w5 b9)))) := (hag9 _ (by omega) (by omega)).trans h5
    have h6 : F3 (m + 6) = some (.inr (0, 112, fun b9 => .int (nI (b6 b9)))) := (hag9 _ (by omega) (by omega)).trans h6
    have h7 : F3 (m + 7) = some (.inr (0, 16, fun b9 => .int (nI (d7 b9)))) := (hag9 _ (by omega) (by omega)).trans h7
    have h8 : F3 (m + 8) = some (.inr (0, 17, fun b9 => .int (nI (b8 b9)))) := (hag9 _ (by omega) (by omega)).trans h8
    have hi : F3 (m + 10) = some (.inr (1, 60, fun b9 => .int (nI (ip b9)))) := (hag9 _ (by omega) (by omega)).trans hi
    have hcm : F3 (m + 11) = some (.inr (0, 183, fun b9 => .int (nI (cs b9)))) := (hag9 _ (by omega) (by omega)).trans hcm
    have o0 : F3 (m) = some (.inl (10, [.int (nI ((if (mOk A a) then 0 else 1))), .ref (m + 1), .int (nI (un)), .int (nI (sv)), .int rs, .ref (m + 2), .ref (m + 3), .ref (m + 4), .ref (m + 5), .ref (m + 6), .int (nI (bm)), .ref (m + 7), .int (nI (dm)), .ref (m + 8), .ref (m + 9), .int (nI ((0 + dgs ((A.2.2.1.2.2 (mIx A a)).1)))), .ref (m + 10), .int (nI (pn)), .int (nI (he)), .int er, .int ep, .int fc, .ref (m + 11), .int (nI (cn))])) := j0
    have h9 : F3 (m + 9) = some (.inr (1, 40, fun b9 => .int (nI (ln1_27 b9)))) := j1
    have hag : ∀ a9 : Nat, (a9 < m ∨ m + 12 ≤ a9) → F3 a9 = F a9 := fun a9 q0 => (hag9 a9 (by omega) (by omega)).trans (hag a9 q0)
    have hg_27 := hag9
    clear hag9
    have t0 : ∀ j, j < dgs ((A.2.2.1.2.2 (mIx A a)).1) → ln1_27 j = dgc ((A.2.2.1.2.2 (mIx A a)).1) j := ag_0 pl_27
    rw [Nat.zero_add] at o0
    refine x_aload_n hC d_MessageCoderModel_formatMessage_30 rfl rfl ?_
    refine x_bipush hC d_MessageCoderModel_formatMessage_31 (v := nI 33) (by decide) ?_
    refine x_callV hC kv_MessageCoderModel_233 (c_MessageCoderModel_writes (o0 := o0) (h9 := h9) (hc := by omega) (hlz := by omega)) o0 rfl rfl (by decide) rfl rfl rfl (Nat.le_of_ble_eq_true rfl) (by decide) d_MessageCoderModel_formatMessage_33 (fun r9 F9 z9 hp9 => ?_)
    obtain ⟨rfl, h9c, j0, j1, hag9⟩ := hp9
    rw [h9c]
    clear h9c z9
    generalize F9 = F4 at *
    have ga : F4 (m + 1) = some (.inr (0, 4730, fun b9 => .int (nI (g b9)))) := (hag9 _ (by omega) (by omega)).trans ga
    have h2 : F4 (m + 2) = some (.inr (0, 8, fun b9 => .int (nI (l2 b9)))) := (hag9 _ (by omega) (by omega)).trans h2
    have h3 : F4 (m + 3) = some (.inr (0, 8, fun b9 => .int (nI (v3 b9)))) := (hag9 _ (by omega) (by omega)).trans h3
    have h4 : F4 (m + 4) = some (.inr (0, 8, fun b9 => .int (nI (r4 b9)))) := (hag9 _ (by omega) (by omega)).trans h4
    have h5 : F4 (m + 5) = some (.inr (0, 8, fun b9 => .int (nI (w5 b9)))) := (hag9 _ (by omega) (by omega)).trans h5
    have h6 : F4 (m + 6) = some (.inr (0, 112, fun b9 => .int (nI (b6 b9)))) := (hag9 _ (by omega) (by omega)).trans h6
    have h7 : F4 (m + 7) = some (.inr (0, 16, fun b9 => .int (nI (d7 b9)))) := (hag9 _ (by omega) (by omega)).trans h7
    have h8 : F4 (m + 8) = some (.inr (0, 17, fun b9 => .int (nI (b8 b9)))) := (hag9 _ (by omega) (by omega)).trans h8
    have hi : F4 (m + 10) = some (.inr (1, 60, fun b9 => .int (nI (ip b9)))) := (hag9 _ (by omega) (by omega)).trans hi
    have hcm : F4 (m + 11) = some (.inr (0, 183, fun b9 => .int (nI (cs b9)))) := (hag9 _ (by omega) (by omega)).trans hcm
    have o0 : F4 (m) = some (.inl (10, [.int (nI ((if mOk A a then 0 else 1))), .ref (m + 1), .int (nI (un)), .int (nI (sv)), .int rs, .ref (m + 2), .ref (m + 3), .ref (m + 4), .ref (m + 5), .ref (m + 6), .int (nI (bm)), .ref (m + 7), .int (nI (dm)), .ref (m + 8), .ref (m + 9), .int (nI (((dgs ((A.2.2.1.2.2 (mIx A a)).1)) + 1))), .ref (m + 10), .int (nI (pn)), .int (nI (he)), .int er, .int ep, .int fc, .ref (m + 11), .int (nI (cn))])) := j0
    have h9 : F4 (m + 9) = some (.inr (1, 40, fun b9 => .int (nI ((updN ln1_27 (dgs ((A.2.2.1.2.2 (mIx A a)).1)) 33) b9)))) := j1
    have hag : ∀ a9 : Nat, (a9 < m ∨ m + 12 ≤ a9) → F4 a9 = F a9 := fun a9 q0 => (hag9 a9 (by omega) (by omega)).trans (hag a9 q0)
    have hg_33 := hag9
    clear hag9
    have t1 := ag_upd 33 t0
    refine x_aload_n hC d_MessageCoderModel_formatMessage_36 rfl rfl ?_
    refine x_aload_n hC d_MessageCoderModel_formatMessage_37 rfl rfl ?_
    refine x_iload_n hC d_MessageCoderModel_formatMessage_38 rfl rfl ?_
    refine x_iconst hC d_MessageCoderModel_formatMessage_39 (v := nI 1) (by decide) ?_
    refine x_callV hC kv_MessageCoderModel_81 (c_MessageCoderModel_m (o0 := o0) (ga := ga) (hpw := by omega)) o0 rfl rfl (by decide) rfl rfl rfl (Nat.le_of_ble_eq_true rfl) (by decide) d_MessageCoderModel_formatMessage_40 (fun r9 F9 z9 hp9 => ?_)
    obtain ⟨rfl, h9b, h9c⟩ := hp9
    rw [h9b, h9c]
    clear h9b h9c F9 z9
    refine x_top (v := (nI ((A.2.2.1.2.2 (mIx A a)).2.1))) (congrArg nI (qm _ hpa).2.1) ?_
    refine x_callV hC kv_MessageCoderModel_230 (c_MessageCoderModel_writesNumber (o0 := o0) (h9 := h9) (hv := by omega) (hlz := by omega)) o0 rfl rfl (by decide) rfl rfl rfl (Nat.le_of_ble_eq_true rfl) (by decide) d_MessageCoderModel_formatMessage_43 (fun r9 F9 z9 hp9 => ?_)
    obtain ⟨ln1_43, rfl, h9c, j0, j1, pl_43, hag9⟩ := hp9
    rw [h9c]
    clear h9c z9
    generalize F9 = F5 at *
    have ga : F5 (m + 1) = some (.inr (0, 4730, fun b9 => .int (nI (g b9)))) := (hag9 _ (by omega) (by omega)).trans ga
    have h2 : F5 (m + 2) = some (.inr (0, 8, fun b9 => .int (nI (l2 b9)))) := (hag9 _ (by omega) (by omega)).trans h2
    have h3 : F5 (m + 3) = some (.inr (0, 8, fun b9 => .int (nI (v3 b9)))) := (hag9 _ (by omega) (by omega)).trans h3
    have h4 : F5 (m + 4) = some (.inr (0, 8, fun b9 => .int (nI (r4 b9)))) := (hag9 _ (by omega) (by omega)).trans h4
    have h5 : F5 (m + 5) = some (.inr (0, 8, fun b9 => .int (nI (w5 b9)))) := (hag9 _ (by omega) (by omega)).trans h5
    have h6 : F5 (m + 6) = some (.inr (0, 112, fun b9 => .int (nI (b6 b9)))) := (hag9 _ (by omega) (by omega)).trans h6
    have h7 : F5 (m + 7) = some (.inr (0, 16, fun b9 => .int (nI (d7 b9)))) := (hag9 _ (by omega) (by omega)).trans h7
    have h8 : F5 (m + 8) = some (.inr (0, 17, fun b9 => .int (nI (b8 b9)))) := (hag9 _ (by omega) (by omega)).trans h8
    have hi : F5 (m + 10) = some (.inr (1, 60, fun b9 => .int (nI (ip b9)))) := (hag9 _ (by omega) (by omega)).trans hi
    have hcm : F5 (m + 11) = some (.inr (0, 183, fun b9 => .int (nI (cs b9)))) := (hag9 _ (by omega) (by omega)).trans hcm
    have o0 : F5 (m) = some (.inl (10, [.int (nI ((if mOk A a then 0 else 1))), .ref (m + 1), .int (nI (un)), .int (nI (sv)), .int rs, .ref (m + 2), .ref (m + 3), .ref (m + 4), .ref (m + 5), .ref (m + 6), .int (nI (bm)), .ref (m + 7), .int (nI (dm)), .ref (m + 8), .ref (m + 9), .int (nI (((dgs ((A.2.2.1.2.2 (mIx A a)).1) + 1) + dgs ((A.2.2.1.2.2 (mIx A a)).2.1)))), .ref (m + 10), .int (nI (pn)), .int (nI (he)), .int er, .int ep, .int fc, .ref (m + 11), .int (nI (cn))])) := j0
    have h9 : F5 (m + 9) = some (.inr (1, 40, fun b9 => .int (nI (ln1_43 b9)))) := j1
    have hag : ∀ a9 : Nat, (a9 < m ∨ m + 12 ≤ a9) → F5 a9 = F a9 := fun a9 q0 => (hag9 a9 (by omega) (by omega)).trans (hag a9 q0)
    have hg_43 := hag9
    clear hag9
    have t2 : ∀ j, j < dgs ((A.2.2.1.2.2 (mIx A a)).1) + 1 + dgs ((A.2.2.1.2.2 (mIx A a)).2.1) → ln1_43 j = (xcat (updN (dgc ((A.2.2.1.2.2 (mIx A a)).1)) (dgs ((A.2.2.1.2.2 (mIx A a)).1)) 33) (dgs ((A.2.2.1.2.2 (mIx A a)).1) + 1) (dgc ((A.2.2.1.2.2 (mIx A a)).2.1))) j := ag_cat t1 (fun j hj => pl_43 j (by omega))
    refine x_aload_n hC d_MessageCoderModel_formatMessage_46 rfl rfl ?_
    refine x_bipush hC d_MessageCoderModel_formatMessage_47 (v := nI 58) (by decide) ?_
    refine x_callV hC kv_MessageCoderModel_233 (c_MessageCoderModel_writes (o0 := o0) (h9 := h9) (hc := by omega) (hlz := by omega)) o0 rfl rfl (by decide) rfl rfl rfl (Nat.le_of_ble_eq_true rfl) (by decide) d_MessageCoderModel_formatMessage_49 (fun r9 F9 z9 hp9 => ?_)
    obtain ⟨rfl, h9c, j0, j1, hag9⟩ := hp9
    rw [h9c]
    clear h9c z9
    generalize F9 = F6 at *
    have ga : F6 (m + 1) = some (.inr (0, 4730, fun b9 => .int (nI (g b9)))) := (hag9 _ (by omega) (by omega)).trans ga
    have h2 : F6 (m + 2) = some (.inr (0, 8, fun b9 => .int (nI (l2 b9)))) := (hag9 _ (by omega) (by omega)).trans h2
    have h3 : F6 (m + 3) = some (.inr (0, 8, fun b9 => .int (nI (v3 b9)))) := (hag9 _ (by omega) (by omega)).trans h3
    have h4 : F6 (m + 4) = some (.inr (0, 8, fun b9 => .int (nI (r4 b9)))) := (hag9 _ (by omega) (by omega)).trans h4
    have h5 : F6 (m + 5) = some (.inr (0, 8, fun b9 => .int (nI (w5 b9)))) := (hag9 _ (by omega) (by omega)).trans h5
    have h6 : F6 (m + 6) = some (.inr (0, 112, fun b9 => .int (nI (b6 b9)))) := (hag9 _ (by omega) (by omega)).trans h6
    have h7 : F6 (m + 7) = some (.inr (0, 16, fun b9 => .int (nI (d7 b9)))) := (hag9 _ (by omega) (by omega)).trans h7
    have h8 : F6 (m + 8) = some (.inr (0, 17, fun b9 => .int (nI (b8 b9)))) := (hag9 _ (by omega) (by omega)).trans h8
    have hi : F6 (m + 10) = some (.inr (1, 60, fun b9 => .int (nI (ip b9)))) := (hag9 _ (by omega) (by omega)).trans hi
    have hcm : F6 (m + 11) = some (.inr (0, 183, fun b9 => .int (nI (cs b9)))) := (hag9 _ (by omega) (by omega)).trans hcm
    have o0 : F6 (m) = some (.inl (10, [.int (nI ((if mOk A a then 0 else 1))), .ref (m + 1), .int (nI (un)), .int (nI (sv)), .int rs, .ref (m + 2), .ref (m + 3), .ref (m + 4), .ref (m + 5), .ref (m + 6), .int (nI (bm)), .ref (m + 7), .int (nI (dm)), .ref (m + 8), .ref (m + 9), .int (nI ((((dgs ((A.2.2.1.2.2 (mIx A a)).1) + 1) + dgs ((A.2.2.1.2.2 (mIx A a)).2.1)) + 1))), .ref (m + 10), .int (nI (pn)), .int (nI (he)), .int er, .int ep, .int fc, .ref (m + 11), .int (nI (cn))])) := j0
    have h9 : F6 (m + 9) = some (.inr (1, 40, fun b9 => .int (nI ((updN ln1_43 ((dgs ((A.2.2.1.2.2 (mIx A a)).1) + 1) + dgs ((A.2.2.1.2.2 (mIx A a)).2.1)) 58) b9)))) := j1
    have hag : ∀ a9 : Nat, (a9 < m ∨ m + 12 ≤ a9) → F6 a9 = F a9 := fun a9 q0 => (hag9 a9 (by omega) (by omega)).trans (hag a9 q0)
    have hg_49 := hag9
    clear hag9
    have t3 := ag_upd 58 t2
    refine x_iconst hC d_MessageCoderModel_formatMessage_52 (v := nI 0) (by decide) ?_
    refine x_istore_n hC d_MessageCoderModel_formatMessage_53 rfl (Nat.le_of_ble_eq_true rfl) (L1 := [some (.ref m), some (.int a), some (.int (nI (mIx A a))), some (.int (nI 0))]) rfl ?_
    have loop_54 : ∀ (m9 : Nat) (Fh54 : xF) (i : Nat) (lx : Nat → Nat), (Fh54 (m) = some (.inl (10, [.int (nI ((if mOk A a then 0 else 1))), .ref (m + 1), .int (nI (un)), .int (nI (sv)), .int rs, .ref (m + 2), .ref (m + 3), .ref (m + 4), .ref (m + 5), .ref (m + 6), .int (nI (bm)), .ref (m + 7), .int (nI (dm)), .ref (m + 8), .ref (m + 9), .int (nI (((dgs ((A.2.2.1.2.2 (mIx A a)).1) + 1 + dgs ((A.2.2.1.2.2 (mIx A a)).2.1) + 1) + i))), .ref (m + 10), .int (nI (pn)), .int (nI (he)), .int er, .int ep, .int fc, .ref (m + 11), .int (nI (cn))]))) → (Fh54 (m + 1) = some (.inr (0, 4730, fun b9 => .int (nI (g b9))))) → (Fh54 (m + 2) = some (.inr (0, 8, fun b9 => .int (nI (l2 b9))))) → (Fh54 (m + 3) = some (.inr (0, 8, fun b9 => .int (nI (v3 b9))))) → (Fh54 (m + 4) = some (.inr (0, 8, fun b9 => .int (nI (r4 b9))))) → (Fh54 (m + 5) = some (.inr (0, 8, fun b9 => .int (nI (w5 b9))))) → (Fh54 (m + 6) = some (.inr (0, 112, fun b9 => .int (nI (b6 b9))))) → (Fh54 (m + 7) = some (.inr (0, 16, fun b9 => .int (nI (d7 b9))))) → (Fh54 (m + 8) = some (.inr (0, 17, fun b9 => .int (nI (b8 b9))))) → (Fh54 (m + 9) = some (.inr (1, 40, fun b9 => .int (nI (lx b9))))) → (Fh54 (m + 10) = some (.inr (1, 60, fun b9 => .int (nI (ip b9))))) → (Fh54 (m + 11) = some (.inr (0, 183, fun b9 => .int (nI (cs b9))))) → (∀ a9 : Nat, (a9 < m ∨ m + 12 ≤ a9) → Fh54 a9 = F a9) → (i ≤ (A.2.2.1.2.2 (mIx A a)).2.2.1) → (∀ j, j < (dgs ((A.2.2.1.2.2 (mIx A a)).1) + 1 + dgs ((A.2.2.1.2.2 (mIx A a)).2.1) + 1) + i → lx j = xcat (updN (xcat (updN (dgc ((A.2.2.1.2.2 (mIx A a)).1)) (dgs ((A.2.2.1.2.2 (mIx A a)).1)) 33) (dgs ((A.2.2.1.2.2 (mIx A a)).1) + 1) (dgc ((A.2.2.1.2.2 (mIx A a)).2.1))) (dgs ((A.2.2.1.2.2 (mIx A a)).1) + 1 + dgs ((A.2.2.1.2.2 (mIx A a)).2.1)) 58) (dgs ((A.2.2.1.2.2 (mIx A a)).1) + 1 + dgs ((A.2.2.1.2.2 (mIx A a)).2.1) + 1) (A.2.2.1.2.2 (mIx A a)).2.2.2 j) → ((A.2.2.1.2.2 (mIx A a)).2.2.1 - i < m9) → xX P Θ 54 [some (.ref m), some (.int a), some (.int (nI (mIx A a))), some (.int (nI (i)))] [] Fh54 (z) 0 0 := by
      intro m9
      induction m9 with
      | zero => intros; omega
      | succ m9 ih_54 =>
        intro Fh54 i lx o0 ga h2 h3 h4 h5 h6 h7 h8 h9 hi hcm hag hi9 kl hm_54
        refine x_iload_n hC d_MessageCoderModel_formatMessage_54 rfl rfl ?_
        refine x_aload_n hC d_MessageCoderModel_formatMessage_55 rfl rfl ?_
        refine x_iload_n hC d_MessageCoderModel_formatMessage_56 rfl rfl ?_
        refine x_iconst hC d_MessageCoderModel_formatMessage_57 (v := nI 2) (by decide) ?_
        refine x_callV hC kv_MessageCoderModel_81 (c_MessageCoderModel_m (o0 := o0) (ga := ga) (hpw := by omega)) o0 rfl rfl (by decide) rfl rfl rfl (Nat.le_of_ble_eq_true rfl) (by decide) d_MessageCoderModel_formatMessage_58 (fun r9 F9 z9 hp9 => ?_)
        obtain ⟨rfl, h9b, h9c⟩ := hp9
        rw [h9b, h9c]
        clear h9b h9c F9 z9
        refine x_top (v := (nI ((A.2.2.1.2.2 (mIx A a)).2.2.1))) (congrArg nI (qm _ hpa).2.2.1) ?_
        refine x_icmpN_ge hC d_MessageCoderModel_formatMessage_61 (tgt := 85) (by decide) (by omega) (by omega) (fun c_61 => ?_) (fun c_61 => ?_)
        · skip
          refine x_aload_n hC d_MessageCoderModel_formatMessage_85 rfl rfl ?_
          refine x_getf hC kf_MessageCoderModel_227 o0 rfl d_MessageCoderModel_formatMessage_86 ?_
          refine hret _ _ _ _ _ _ _ d_MessageCoderModel_formatMessage_89 (by decide) (by decide) rfl ?_
          have e8 : i = (A.2.2.1.2.2 (mIx A a)).2.2.1 := by omega
          have e1 : (if mOk A a then setL (A, S, past, (pn, psg), (lnn, lsg), sv, pp, un, ep, fc) ((dgs ((A.2.2.1.2.2 (mIx A a)).1) + 1 + dgs ((A.2.2.1.2.2 (mIx A a)).2.1) + 1) + (A.2.2.1.2.2 (mIx A a)).2.2.1) (fmS (A.2.2.1.2.2 (mIx A a))) else (A, S, past, (pn, psg), (lnn, lsg), sv, pp, un, ep, fc)) = setL (A, S, past, (pn, psg), (lnn, lsg), sv, pp, un, ep, fc) ((dgs ((A.2.2.1.2.2 (mIx A a)).1) + 1 + dgs ((A.2.2.1.2.2 (mIx A a)).2.1) + 1) + (A.2.2.1.2.2 (mIx A a)).2.2.1) (fmS (A.2.2.1.2.2 (mIx A a))) := if_pos c_9
          exact ⟨congrArg (fun q => some (Value.int (nI q))) ((by rw [e8]; exact (if_pos c_9).symm)), rfl, (by show xMD _ m (if mOk A a then 0 else 1) (if mOk A a then setL (A, S, past, (pn, psg), (lnn, lsg), sv, pp, un, ep, fc) ((dgs ((A.2.2.1.2.2 (mIx A a)).1) + 1 + dgs ((A.2.2.1.2.2 (mIx A a)).2.1) + 1) + (A.2.2.1.2.2 (mIx A a)).2.2.1) (fmS (A.2.2.1.2.2 (mIx A a))) else (A, S, past, (pn, psg), (lnn, lsg), sv, pp, un, ep, fc)); rw [e1]; exact ⟨_, _, _, _, _, _, _, _, _, _, _, _, _, _, _, _, _, (by rw [e8] at o0; exact o0), ga, h2, h3, h4, h5, h6, h7, h8, h9, hi, hcm, hg, (fun j hj => kl j (by rw [e8]; exact hj)), hip⟩), hag⟩
        · skip
          have hsm : g (34 + 19 * mIx A a + (3 + i)) + 97 = (A.2.2.1.2.2 (mIx A a)).2.2.2 i := (qm _ hpa).2.2.2 i (by omega)
          obtain ⟨hs7, hs8⟩ : 97 ≤ (A.2.2.1.2.2 (mIx A a)).2.2.2 i ∧ (A.2.2.1.2.2 (mIx A a)).2.2.2 i < 105 := hsy i (by omega)
          refine x_aload_n hC d_MessageCoderModel_formatMessage_64 rfl rfl ?_
          refine x_bipush hC d_MessageCoderModel_formatMessage_65 (v := nI 97) (by decide) ?_
          refine x_aload_n hC d_MessageCoderModel_formatMessage_67 rfl rfl ?_
          refine x_iload_n hC d_MessageCoderModel_formatMessage_68 rfl rfl ?_
          refine x_iconst hC d_MessageCoderModel_formatMessage_69 (v := nI 3) (by decide) ?_
          refine x_iload_n hC d_MessageCoderModel_formatMessage_70 rfl rfl ?_
          refine x_iadd hC d_MessageCoderModel_formatMessage_71 (v := (nI (3 + i))) (x_addN (by omega)) ?_
          refine x_callV hC kv_MessageCoderModel_81 (c_MessageCoderModel_m (o0 := o0) (ga := ga) (hpw := by omega)) o0 rfl rfl (by decide) rfl rfl rfl (Nat.le_of_ble_eq_true rfl) (by decide) d_MessageCoderModel_formatMessage_72 (fun r9 F9 z9 hp9 => ?_)
          obtain ⟨rfl, h9b, h9c⟩ := hp9
          rw [h9b, h9c]
          clear h9b h9c F9 z9
          refine x_iadd hC d_MessageCoderModel_formatMessage_75 (v := (nI ((A.2.2.1.2.2 (mIx A a)).2.2.2 i))) (by rw [nI_add]; exact congrArg nI (by omega)) ?_
          refine x_callV hC kv_MessageCoderModel_233 (c_MessageCoderModel_writes (o0 := o0) (h9 := h9) (hc := by omega) (hlz := by omega)) o0 rfl rfl (by decide) rfl rfl rfl (Nat.le_of_ble_eq_true rfl) (by decide) d_MessageCoderModel_formatMessage_76 (fun r9 F9 z9 hp9 => ?_)
          obtain ⟨rfl, h9c, j0, j1, hag9⟩ := hp9
          rw [h9c]
          clear h9c z9
          generalize F9 = F7 at *
          have ga : F7 (m + 1) = some (.inr (0, 4730, fun b9 => .int (nI (g b9)))) := (hag9 _ (by omega) (by omega)).trans ga
          have h2 : F7 (m + 2) = some (.inr (0, 8, fun b9 => .int (nI (l2 b9)))) := (hag9 _ (by omega) (by omega)).trans h2
          have h3 : F7 (m + 3) = some (.inr (0, 8, fun b9 => .int (nI (v3 b9)))) := (hag9 _ (by omega) (by omega)).trans h3
          have h4 : F7 (m + 4) = some (.inr (0, 8, fun b9 => .int (nI (r4 b9)))) := (hag9 _ (by omega) (by omega)).trans h4
          have h5 : F7 (m + 5) = some (.inr (0, 8, fun b9 => .int (nI (w5 b9)))) := (hag9 _ (by omega) (by omega)).trans h5
          have h6 : F7 (m + 6) = some (.inr (0, 112, fun b9 => .int (nI (b6 b9)))) := (hag9 _ (by omega) (by omega)).trans h6
          have h7 : F7 (m + 7) = some (.inr (0, 16, fun b9 => .int (nI (d7 b9)))) := (hag9 _ (by omega) (by omega)).trans h7
          have h8 : F7 (m + 8) = some (.inr (0, 17, fun b9 => .int (nI (b8 b9)))) := (hag9 _ (by omega) (by omega)).trans h8
          have hi : F7 (m + 10) = some (.inr (1, 60, fun b9 => .int (nI (ip b9)))) := (hag9 _ (by omega) (by omega)).trans hi
          have hcm : F7 (m + 11) = some (.inr (0, 183, fun b9 => .int (nI (cs b9)))) := (hag9 _ (by omega) (by omega)).trans hcm
          have o0 : F7 (m) = some (.inl (10, [.int (nI ((if mOk A a then 0 else 1))), .ref (m + 1), .int (nI (un)), .int (nI (sv)), .int rs, .ref (m + 2), .ref (m + 3), .ref (m + 4), .ref (m + 5), .ref (m + 6), .int (nI (bm)), .ref (m + 7), .int (nI (dm)), .ref (m + 8), .ref (m + 9), .int (nI ((((dgs ((A.2.2.1.2.2 (mIx A a)).1) + 1 + dgs ((A.2.2.1.2.2 (mIx A a)).2.1) + 1) + i) + 1))), .ref (m + 10), .int (nI (pn)), .int (nI (he)), .int er, .int ep, .int fc, .ref (m + 11), .int (nI (cn))])) := j0
          have h9 : F7 (m + 9) = some (.inr (1, 40, fun b9 => .int (nI ((updN lx ((dgs ((A.2.2.1.2.2 (mIx A a)).1) + 1 + dgs ((A.2.2.1.2.2 (mIx A a)).2.1) + 1) + i) ((A.2.2.1.2.2 (mIx A a)).2.2.2 i)) b9)))) := j1
          have hag : ∀ a9 : Nat, (a9 < m ∨ m + 12 ≤ a9) → F7 a9 = F a9 := fun a9 q0 => (hag9 a9 (by omega) (by omega)).trans (hag a9 q0)
          have hg_76 := hag9
          clear hag9
          refine x_iinc hC d_MessageCoderModel_formatMessage_79 rfl (v := (nI (i + 1))) (x_incN 1) (Nat.le_of_ble_eq_true rfl) (L1 := [some (.ref m), some (.int a), some (.int (nI (mIx A a))), some (.int (nI (i + 1)))]) rfl ?_
          refine x_goto hC d_MessageCoderModel_formatMessage_82 (tgt := 54) (by decide) ?_
          exact ih_54 F7 (i + 1) ((updN lx ((dgs ((A.2.2.1.2.2 (mIx A a)).1) + 1 + dgs ((A.2.2.1.2.2 (mIx A a)).2.1) + 1) + i) ((A.2.2.1.2.2 (mIx A a)).2.2.2 i))) o0 ga h2 h3 h4 h5 h6 h7 h8 h9 hi hcm hag (by omega) (fun j hj => by by_cases e : j = (dgs ((A.2.2.1.2.2 (mIx A a)).1) + 1 + dgs ((A.2.2.1.2.2 (mIx A a)).2.1) + 1) + i; (rw [e, updN_eq]; unfold xcat; rw [if_neg (by omega), show (dgs ((A.2.2.1.2.2 (mIx A a)).1) + 1 + dgs ((A.2.2.1.2.2 (mIx A a)).2.1) + 1) + i - (dgs ((A.2.2.1.2.2 (mIx A a)).1) + 1 + dgs ((A.2.2.1.2.2 (mIx A a)).2.1) + 1) = i by omega]); (rw [updN_ne e]; exact kl j (by omega))) (by omega)
    exact loop_54 ((A.2.2.1.2.2 (mIx A a)).2.2.1 - 0 + 1) F6 (0) ((updN ln1_43 (dgs ((A.2.2.1.2.2 (mIx A a)).1) + 1 + dgs ((A.2.2.1.2.2 (mIx A a)).2.1)) 58)) o0 ga h2 h3 h4 h5 h6 h7 h8 h9 hi hcm hag (by omega) (fun j hj => (t3 j (by omega)).trans (if_pos (by omega)).symm) (by omega)
  · skip
    refine x_iconst hC d_MessageCoderModel_formatMessage_12 (v := nI 0) (by decide) ?_
    refine hret _ _ _ _ _ _ _ d_MessageCoderModel_formatMessage_13 (by decide) (by decide) rfl ?_
    have e1 : (if mOk A a then setL (A, S, past, (pn, psg), (lnn, lsg), sv, pp, un, ep, fc) ((dgs ((A.2.2.1.2.2 (mIx A a)).1) + 1 + dgs ((A.2.2.1.2.2 (mIx A a)).2.1) + 1) + (A.2.2.1.2.2 (mIx A a)).2.2.1) (fmS (A.2.2.1.2.2 (mIx A a))) else (A, S, past, (pn, psg), (lnn, lsg), sv, pp, un, ep, fc)) = (A, S, past, (pn, psg), (lnn, lsg), sv, pp, un, ep, fc) := if_neg c_9
    exact ⟨congrArg (fun q => some (Value.int (nI q))) ((if_neg c_9).symm), rfl, (by show xMD _ m (if mOk A a then 0 else 1) (if mOk A a then setL (A, S, past, (pn, psg), (lnn, lsg), sv, pp, un, ep, fc) ((dgs ((A.2.2.1.2.2 (mIx A a)).1) + 1 + dgs ((A.2.2.1.2.2 (mIx A a)).2.1) + 1) + (A.2.2.1.2.2 (mIx A a)).2.2.1) (fmS (A.2.2.1.2.2 (mIx A a))) else (A, S, past, (pn, psg), (lnn, lsg), sv, pp, un, ep, fc)); rw [e1]; exact ⟨_, _, _, _, _, _, _, _, _, _, _, _, _, _, _, _, _, o0, ga, h2, h3, h4, h5, h6, h7, h8, h9, hi, hcm, hg, hln, hip⟩), hag⟩

theorem d_MessageCoderModel_formatCode_0 : decode prog_14_method_103_code 0 = .ok (.aload_n 0, 1) := by decide +kernel
theorem d_MessageCoderModel_formatCode_1 : decode prog_14_method_103_code 1 = .ok (.iload_n 1, 1) := by decide +kernel
theorem d_MessageCoderModel_formatCode_2 : decode prog_14_method_103_code 2 = .ok (.invokestatic 118, 3) := by decide +kernel
theorem d_MessageCoderModel_formatCode_5 : decode prog_14_method_103_code 5 = .ok (.invokevirtual 195, 3) := by decide +kernel
theorem d_MessageCoderModel_formatCode_8 : decode prog_14_method_103_code 8 = .ok (.ifCond .ne 5, 3) := by decide +kernel
theorem d_MessageCoderModel_formatCode_11 : decode prog_14_method_103_code 11 = .ok (.iconst 0, 1) := by decide +kernel
theorem d_MessageCoderModel_formatCode_12 : decode prog_14_method_103_code 12 = .ok (.ireturn, 1) := by decide +kernel
theorem d_MessageCoderModel_formatCode_13 : decode prog_14_method_103_code 13 = .ok (.aload_n 0, 1) := by decide +kernel
theorem d_MessageCoderModel_formatCode_14 : decode prog_14_method_103_code 14 = .ok (.invokevirtual 91, 3) := by decide +kernel
theorem d_MessageCoderModel_formatCode_17 : decode prog_14_method_103_code 17 = .ok (.aload_n 0, 1) := by decide +kernel
theorem d_MessageCoderModel_formatCode_18 : decode prog_14_method_103_code 18 = .ok (.iconst 0, 1) := by decide +kernel
theorem d_MessageCoderModel_formatCode_19 : decode prog_14_method_103_code 19 = .ok (.putfield 227, 3) := by decide +kernel
theorem d_MessageCoderModel_formatCode_22 : decode prog_14_method_103_code 22 = .ok (.aload_n 0, 1) := by decide +kernel
theorem d_MessageCoderModel_formatCode_23 : decode prog_14_method_103_code 23 = .ok (.iload_n 1, 1) := by decide +kernel
theorem d_MessageCoderModel_formatCode_24 : decode prog_14_method_103_code 24 = .ok (.invokevirtual 233, 3) := by decide +kernel
theorem d_MessageCoderModel_formatCode_27 : decode prog_14_method_103_code 27 = .ok (.aload_n 0, 1) := by decide +kernel
theorem d_MessageCoderModel_formatCode_28 : decode prog_14_method_103_code 28 = .ok (.bipush 61, 2) := by decide +kernel
theorem d_MessageCoderModel_formatCode_30 : decode prog_14_method_103_code 30 = .ok (.invokevirtual 233, 3) := by decide +kernel
theorem d_MessageCoderModel_formatCode_33 : decode prog_14_method_103_code 33 = .ok (.aload_n 0, 1) := by decide +kernel
theorem d_MessageCoderModel_formatCode_34 : decode prog_14_method_103_code 34 = .ok (.getfield 13, 3) := by decide +kernel
theorem d_MessageCoderModel_formatCode_37 : decode prog_14_method_103_code 37 = .ok (.iload_n 1, 1) := by decide +kernel
theorem d_MessageCoderModel_formatCode_38 : decode prog_14_method_103_code 38 = .ok (.bipush 97, 2) := by decide +kernel
theorem d_MessageCoderModel_formatCode_40 : decode prog_14_method_103_code 40 = .ok (.isub, 1) := by decide +kernel
theorem d_MessageCoderModel_formatCode_41 : decode prog_14_method_103_code 41 = .ok (.iaload, 1) := by decide +kernel
theorem d_MessageCoderModel_formatCode_42 : decode prog_14_method_103_code 42 = .ok (.iconst 1, 1) := by decide +kernel
theorem d_MessageCoderModel_formatCode_43 : decode prog_14_method_103_code 43 = .ok (.isub, 1) := by decide +kernel
theorem d_MessageCoderModel_formatCode_44 : decode prog_14_method_103_code 44 = .ok (.istore_n 2, 1) := by decide +kernel
theorem d_MessageCoderModel_formatCode_45 : decode prog_14_method_103_code 45 = .ok (.iload_n 2, 1) := by decide +kernel
theorem d_MessageCoderModel_formatCode_46 : decode prog_14_method_103_code 46 = .ok (.ifCond .lt 29, 3) := by decide +kernel
theorem d_MessageCoderModel_formatCode_49 : decode prog_14_method_103_code 49 = .ok (.aload_n 0, 1) := by decide +kernel
theorem d_MessageCoderModel_formatCode_50 : decode prog_14_method_103_code 50 = .ok (.bipush 48, 2) := by decide +kernel
theorem d_MessageCoderModel_formatCode_52 : decode prog_14_method_103_code 52 = .ok (.aload_n 0, 1) := by decide +kernel
theorem d_MessageCoderModel_formatCode_53 : decode prog_14_method_103_code 53 = .ok (.getfield 16, 3) := by decide +kernel
theorem d_MessageCoderModel_formatCode_56 : decode prog_14_method_103_code 56 = .ok (.iload_n 1, 1) := by decide +kernel
theorem d_MessageCoderModel_formatCode_57 : decode prog_14_method_103_code 57 = .ok (.bipush 97, 2) := by decide +kernel
theorem d_MessageCoderModel_formatCode_59 : decode prog_14_method_103_code 59 = .ok (.isub, 1) := by decide +kernel
theorem d_MessageCoderModel_formatCode_60 : decode prog_14_method_103_code 60 = .ok (.iaload, 1) := by decide +kernel
theorem d_MessageCoderModel_formatCode_61 : decode prog_14_method_103_code 61 = .ok (.iload_n 2, 1) := by decide +kernel
theorem d_MessageCoderModel_formatCode_62 : decode prog_14_method_103_code 62 = .ok (.ishr, 1) := by decide +kernel
theorem d_MessageCoderModel_formatCode_63 : decode prog_14_method_103_code 63 = .ok (.iconst 1, 1) := by decide +kernel
theorem d_MessageCoderModel_formatCode_64 : decode prog_14_method_103_code 64 = .ok (.iand, 1) := by decide +kernel
theorem d_MessageCoderModel_formatCode_65 : decode prog_14_method_103_code 65 = .ok (.iadd, 1) := by decide +kernel
theorem d_MessageCoderModel_formatCode_66 : decode prog_14_method_103_code 66 = .ok (.invokevirtual 233, 3) := by decide +kernel
theorem d_MessageCoderModel_formatCode_69 : decode prog_14_method_103_code 69 = .ok (.iinc 2 (-1), 3) := by decide +kernel
theorem d_MessageCoderModel_formatCode_72 : decode prog_14_method_103_code 72 = .ok (.goto (-27), 3) := by decide +kernel
theorem d_MessageCoderModel_formatCode_75 : decode prog_14_method_103_code 75 = .ok (.aload_n 0, 1) := by decide +kernel
theorem d_MessageCoderModel_formatCode_76 : decode prog_14_method_103_code 76 = .ok (.getfield 227, 3) := by decide +kernel
theorem d_MessageCoderModel_formatCode_79 : decode prog_14_method_103_code 79 = .ok (.ireturn, 1) := by decide +kernel
set_option maxHeartbeats 4000000 in
set_option maxRecDepth 20000 in
theorem c_MessageCoderModel_formatCode {P : xP} {F : xF} {z : Nat} {m : Nat} {th0 : Nat} {M : mcS} {c : Nat} (hD : xMD F (m) (th0) (M)) (hI : mInv M) (hcb : c < 65536) : xM P xy_MessageCoderModel_formatCode [.ref m, .int (nI (c))] F (z) 0 0 (fun r9 F9 z9 => r9 = some (.int (nI (if 97 ≤ c ∧ c < 105 then 2 + hLen M.1.1 (c - 97) else 0))) ∧ z9 = z ∧ xMD F9 (m) ((if 97 ≤ c ∧ c < 105 then 0 else 1)) ((if 97 ≤ c ∧ c < 105 then setL M (2 + hLen M.1.1 (c - 97)) (fmC c (hLen M.1.1 (c - 97)) (hVal (hLen M.1.1) (c - 97))) else M)) ∧ (∀ a9 : Nat, (a9 < m ∨ m + 12 ≤ a9) → F9 a9 = F a9)) := by
  refine xM_i .int rfl (Nat.le_of_ble_eq_true rfl) (L0 := [some (.ref m), some (.int (nI (c))), none]) rfl rfl fun Θ hC hret => ?_
  have hag : ∀ a9 : Nat, (a9 < m ∨ m + 12 ≤ a9) → F a9 = F a9 := fun a9 _ => rfl
  obtain ⟨A, S, past, ⟨pn, psg⟩, ⟨lnn, lsg⟩, sv, pp, un, ep, fc⟩ := M
  obtain ⟨rs, er, bm, dm, he, cn, g, l2, v3, r4, w5, b6, d7, b8, ln, ip, cs, o0, ga, h2, h3, h4, h5, h6, h7, h8, h9, hi, hcm, hg, hln, hip⟩ := id hD
  obtain ⟨iA, iP, iS, hu8, hup, hs1, hty, hlz, hic, hlc⟩ := id hI
  have o0 : F (m) = some (.inl (10, [.int (nI (th0)), .ref (m + 1), .int (nI (un)), .int (nI (sv)), .int rs, .ref (m + 2), .ref (m + 3), .ref (m + 4), .ref (m + 5), .ref (m + 6), .int (nI (bm)), .ref (m + 7), .int (nI (dm)), .ref (m + 8), .ref (m + 9), .int (nI (lnn)), .ref (m + 10), .int (nI (pn)), .int (nI (he)), .int er, .int ep, .int fc, .ref (m + 11), .int (nI (cn))])) := o0
  have ga : F (m + 1) = some (.inr (0, 4730, fun b9 => .int (nI (g b9)))) := ga
  have h2 : F (m + 2) = some (.inr (0, 8, fun b9 => .int (nI (l2 b9)))) := h2
  have h3 : F (m + 3) = some (.inr (0, 8, fun b9 => .int (nI (v3 b9)))) := h3
  have h4 : F (m + 4) = some (.inr (0, 8, fun b9 => .int (nI (r4 b9)))) := h4
  have h5 : F (m + 5) = some (.inr (0, 8, fun b9 => .int (nI (w5 b9)))) := h5
  have h6 : F (m + 6) = some (.inr (0, 112, fun b9 => .int (nI (b6 b9)))) := h6
  have h7 : F (m + 7) = some (.inr (0, 16, fun b9 => .int (nI (d7 b9)))) := h7
  have h8 : F (m + 8) = some (.inr (0, 17, fun b9 => .int (nI (b8 b9)))) := h8
  have h9 : F (m + 9) = some (.inr (1, 40, fun b9 => .int (nI (ln b9)))) := h9
  have hi : F (m + 10) = some (.inr (1, 60, fun b9 => .int (nI (ip b9)))) := hi
  have hcm : F (m + 11) = some (.inr (0, 183, fun b9 => .int (nI (cs b9)))) := hcm
  have hln : ∀ j, j < lnn → ln j = lsg j := hln
  have hip : ∀ j, j < pn → ip j = psg j := hip
  have iA : aInv A := iA
  have hu8 : un ≤ 8 := hu8
  have hup : un ≤ pp := hup
  have hs1 : sv ≤ 1 := hs1
  have hty : pn ≤ 60 := hty
  have hlz : lnn ≤ 32 := hlz
  have hr : rRow g A := hg.1
  have hA : aInv A := iA
  obtain ⟨⟨q0, q1, q2, q3, q4, q5, q6, q7, q9⟩, qw, qd, qm, qf, qx, qb⟩ := id hr
  obtain ⟨⟨u1, u2, u3, u4, u5⟩, uw, ud, um, uo, ut, ux, ub, un9⟩ := id hA
  refine x_aload_n hC d_MessageCoderModel_formatCode_0 rfl rfl ?_
  refine x_iload_n hC d_MessageCoderModel_formatCode_1 rfl rfl ?_
  refine x_callS hC ks_MessageCoderModel_118 (c_MessageCoderModel_isSymbolN (hcb := hcb)) (by decide) rfl rfl rfl (Nat.le_of_ble_eq_true rfl) (by decide) d_MessageCoderModel_formatCode_2 (fun r9 F9 z9 hp9 => ?_)
  obtain ⟨rfl, h9b, h9c⟩ := hp9
  rw [h9b, h9c]
  clear h9b h9c F9 z9
  refine x_callV hC kv_MessageCoderModel_195 (c_MessageCoderModel_isFine (o0 := o0)) o0 rfl rfl (by decide) rfl rfl rfl (Nat.le_of_ble_eq_true rfl) (by decide) d_MessageCoderModel_formatCode_5 (fun r9 F9 z9 hp9 => ?_)
  obtain ⟨rfl, h9c, j0, hag9⟩ := hp9
  rw [h9c]
  clear h9c z9
  generalize F9 = F1 at *
  have ga : F1 (m + 1) = some (.inr (0, 4730, fun b9 => .int (nI (g b9)))) := (hag9 _ (by omega)).trans ga
  have h2 : F1 (m + 2) = some (.inr (0, 8, fun b9 => .int (nI (l2 b9)))) := (hag9 _ (by omega)).trans h2
  have h3 : F1 (m + 3) = some (.inr (0, 8, fun b9 => .int (nI (v3 b9)))) := (hag9 _ (by omega)).trans h3
  have h4 : F1 (m + 4) = some (.inr (0, 8, fun b9 => .int (nI (r4 b9)))) := (hag9 _ (by omega)).trans h4
  have h5 : F1 (m + 5) = some (.inr (0, 8, fun b9 => .int (nI (w5 b9)))) := (hag9 _ (by omega)).trans h5
  have h6 : F1 (m + 6) = some (.inr (0, 112, fun b9 => .int (nI (b6 b9)))) := (hag9 _ (by omega)).trans h6
  have h7 : F1 (m + 7) = some (.inr (0, 16, fun b9 => .int (nI (d7 b9)))) := (hag9 _ (by omega)).trans h7
  have h8 : F1 (m + 8) = some (.inr (0, 17, fun b9 => .int (nI (b8 b9)))) := (hag9 _ (by omega)).trans h8
  have h9 : F1 (m + 9) = some (.inr (1, 40, fun b9 => .int (nI (ln b9)))) := (hag9 _ (by omega)).trans h9
  have hi : F1 (m + 10) = some (.inr (1, 60, fun b9 => .int (nI (ip b9)))) := (hag9 _ (by omega)).trans hi
  have hcm : F1 (m + 11) = some (.inr (0, 183, fun b9 => .int (nI (cs b9)))) := (hag9 _ (by omega)).trans hcm
  have o0 : F1 (m) = some (.inl (10, [.int (nI ((if (97 ≤ c ∧ c < 105) then 0 else 1))), .ref (m + 1), .int (nI (un)), .int (nI (sv)), .int rs, .ref (m + 2), .ref (m + 3), .ref (m + 4), .ref (m + 5), .ref (m + 6), .int (nI (bm)), .ref (m + 7), .int (nI (dm)), .ref (m + 8), .ref (m + 9), .int (nI (lnn)), .ref (m + 10), .int (nI (pn)), .int (nI (he)), .int er, .int ep, .int fc, .ref (m + 11), .int (nI (cn))])) := j0
  have hag : ∀ a9 : Nat, (a9 < m ∨ m + 12 ≤ a9) → F1 a9 = F a9 := fun a9 q0 => (hag9 a9 (by omega)).trans (hag a9 q0)
  have hg_5 := hag9
  clear hag9
  refine x_ifB_ne hC d_MessageCoderModel_formatCode_8 (tgt := 13) (by decide) (fun c_8 => ?_) (fun c_8 => ?_)
  · skip
    refine x_aload_n hC d_MessageCoderModel_formatCode_13 rfl rfl ?_
    refine x_callV hC kv_MessageCoderModel_91 (c_MessageCoderModel_codes (o0 := o0) (ga := ga) (h2 := h2) (h3 := h3) (h4 := h4) (h5 := h5) (hw := hr.2.1) (hw9 := fun j hj => (iA.2.1 j hj).2) (w := A.1)) o0 rfl rfl (by decide) rfl rfl rfl (Nat.le_of_ble_eq_true rfl) (by decide) d_MessageCoderModel_formatCode_14 (fun r9 F9 z9 hp9 => ?_)
    obtain ⟨ln1_14, vl1_14, gr1_14, gw1_14, rfl, h9c, j0, j1, j2, j3, j4, j5, pk_14, hag9⟩ := hp9
    rw [h9c]
    clear h9c z9
    generalize F9 = F2 at *
    have h6 : F2 (m + 6) = some (.inr (0, 112, fun b9 => .int (nI (b6 b9)))) := (hag9 _ (by omega)).trans h6
    have h7 : F2 (m + 7) = some (.inr (0, 16, fun b9 => .int (nI (d7 b9)))) := (hag9 _ (by omega)).trans h7
    have h8 : F2 (m + 8) = some (.inr (0, 17, fun b9 => .int (nI (b8 b9)))) := (hag9 _ (by omega)).trans h8
    have h9 : F2 (m + 9) = some (.inr (1, 40, fun b9 => .int (nI (ln b9)))) := (hag9 _ (by omega)).trans h9
    have hi : F2 (m + 10) = some (.inr (1, 60, fun b9 => .int (nI (ip b9)))) := (hag9 _ (by omega)).trans hi
    have hcm : F2 (m + 11) = some (.inr (0, 183, fun b9 => .int (nI (cs b9)))) := (hag9 _ (by omega)).trans hcm
    have o0 : F2 (m) = some (.inl (10, [.int (nI ((if (97 ≤ c ∧ c < 105) then 0 else 1))), .ref (m + 1), .int (nI (un)), .int (nI (sv)), .int rs, .ref (m + 2), .ref (m + 3), .ref (m + 4), .ref (m + 5), .ref (m + 6), .int (nI (bm)), .ref (m + 7), .int (nI (dm)), .ref (m + 8), .ref (m + 9), .int (nI (lnn)), .ref (m + 10), .int (nI (pn)), .int (nI (he)), .int er, .int ep, .int fc, .ref (m + 11), .int (nI (cn))])) := j0
    have ga : F2 (m + 1) = some (.inr (0, 4730, fun b9 => .int (nI (g b9)))) := j1
    have h2 : F2 (m + 2) = some (.inr (0, 8, fun b9 => .int (nI (ln1_14 b9)))) := j2
    have h3 : F2 (m + 3) = some (.inr (0, 8, fun b9 => .int (nI (vl1_14 b9)))) := j3
    have h4 : F2 (m + 4) = some (.inr (0, 8, fun b9 => .int (nI (gr1_14 b9)))) := j4
    have h5 : F2 (m + 5) = some (.inr (0, 8, fun b9 => .int (nI (gw1_14 b9)))) := j5
    have hag : ∀ a9 : Nat, (a9 < m ∨ m + 12 ≤ a9) → F2 a9 = F a9 := fun a9 q0 => (hag9 a9 (by omega)).trans (hag a9 q0)
    have hg_14 := hag9
    clear hag9
    have hl7 : (hLen A.1 (c - 97)) ≤ 7 := hLen_7 A.1 (by omega)
    have hv9 : (hVal (hLen A.1) (c - 97)) ≤ 1024 := hVal_bd hl7
    have hk9 := pk_14 (c - 97) (by omega)
    refine x_aload_n hC d_MessageCoderModel_formatCode_17 rfl rfl ?_
    refine x_iconst hC d_MessageCoderModel_formatCode_18 (v := nI 0) (by decide) ?_
    refine x_putf hC kf_MessageCoderModel_227 o0 (Nat.le_of_ble_eq_true rfl) rfl rfl d_MessageCoderModel_formatCode_19 (fs1 := [.int (nI ((if (97 ≤ c ∧ c < 105) then 0 else 1))), .ref (m + 1), .int (nI (un)), .int (nI (sv)), .int rs, .ref (m + 2), .ref (m + 3), .ref (m + 4), .ref (m + 5), .ref (m + 6), .int (nI (bm)), .ref (m + 7), .int (nI (dm)), .ref (m + 8), .ref (m + 9), .int (nI 0), .ref (m + 10), .int (nI (pn)), .int (nI (he)), .int er, .int ep, .int fc, .ref (m + 11), .int (nI (cn))]) rfl ?_
    generalize e3 : xup F2 (m) (.inl (10, [.int (nI ((if (97 ≤ c ∧ c < 105) then 0 else 1))), .ref (m + 1), .int (nI (un)), .int (nI (sv)), .int rs, .ref (m + 2), .ref (m + 3), .ref (m + 4), .ref (m + 5), .ref (m + 6), .int (nI (bm)), .ref (m + 7), .int (nI (dm)), .ref (m + 8), .ref (m + 9), .int (nI 0), .ref (m + 10), .int (nI (pn)), .int (nI (he)), .int er, .int ep, .int fc, .ref (m + 11), .int (nI (cn))])) = F3
    have h6 : F3 (m + 6) = some (.inr (0, 112, fun b9 => .int (nI (b6 b9)))) := by rw [← e3]; exact (xup_ne (by omega)).trans h6
    have h7 : F3 (m + 7) = some (.inr (0, 16, fun b9 => .int (nI (d7 b9)))) := by rw [← e3]; exact (xup_ne (by omega)).trans h7
    have h8 : F3 (m + 8) = some (.inr (0, 17, fun b9 => .int (nI (b8 b9)))) := by rw [← e3]; exact (xup_ne (by omega)).trans h8
    have h9 : F3 (m + 9) = some (.inr (1, 40, fun b9 => .int (nI (ln b9)))) := by rw [← e3]; exact (xup_ne (by omega)).trans h9
    have hi : F3 (m + 10) = some (.inr (1, 60, fun b9 => .int (nI (ip b9)))) := by rw [← e3]; exact (xup_ne (by omega)).trans hi
    have hcm : F3 (m + 11) = some (.inr (0, 183, fun b9 => .int (nI (cs b9)))) := by rw [← e3]; exact (xup_ne (by omega)).trans hcm
    have o0 : F3 (m) = some (.inl (10, [.int (nI ((if (97 ≤ c ∧ c < 105) then 0 else 1))), .ref (m + 1), .int (nI (un)), .int (nI (sv)), .int rs, .ref (m + 2), .ref (m + 3), .ref (m + 4), .ref (m + 5), .ref (m + 6), .int (nI (bm)), .ref (m + 7), .int (nI (dm)), .ref (m + 8), .ref (m + 9), .int (nI 0), .ref (m + 10), .int (nI (pn)), .int (nI (he)), .int er, .int ep, .int fc, .ref (m + 11), .int (nI (cn))])) := by rw [← e3]; exact xup_eq
    have ga : F3 (m + 1) = some (.inr (0, 4730, fun b9 => .int (nI (g b9)))) := by rw [← e3]; exact (xup_ne (by omega)).trans ga
    have h2 : F3 (m + 2) = some (.inr (0, 8, fun b9 => .int (nI (ln1_14 b9)))) := by rw [← e3]; exact (xup_ne (by omega)).trans h2
    have h3 : F3 (m + 3) = some (.inr (0, 8, fun b9 => .int (nI (vl1_14 b9)))) := by rw [← e3]; exact (xup_ne (by omega)).trans h3
    have h4 : F3 (m + 4) = some (.inr (0, 8, fun b9 => .int (nI (gr1_14 b9)))) := by rw [← e3]; exact (xup_ne (by omega)).trans h4
    have h5 : F3 (m + 5) = some (.inr (0, 8, fun b9 => .int (nI (gw1_14 b9)))) := by rw [← e3]; exact (xup_ne (by omega)).trans h5
    have hag : ∀ a9 : Nat, (a9 < m ∨ m + 12 ≤ a9) → F3 a9 = F a9 := fun a9 q0 => by rw [← e3]; exact (xup_ne (by omega)).trans (hag a9 q0)
    refine x_aload_n hC d_MessageCoderModel_formatCode_22 rfl rfl ?_
    refine x_iload_n hC d_MessageCoderModel_formatCode_23 rfl rfl ?_
    refine x_callV hC kv_MessageCoderModel_233 (c_MessageCoderModel_writes (o0 := o0) (h9 := h9) (hc := hcb) (hlz := by omega)) o0 rfl rfl (by decide) rfl rfl rfl (Nat.le_of_ble_eq_true rfl) (by decide) d_MessageCoderModel_formatCode_24 (fun r9 F9 z9 hp9 => ?_)
    obtain ⟨rfl, h9c, j0, j1, hag9⟩ := hp9
    rw [h9c]
    clear h9c z9
    generalize F9 = F4 at *
    have h6 : F4 (m + 6) = some (.inr (0, 112, fun b9 => .int (nI (b6 b9)))) := (hag9 _ (by omega) (by omega)).trans h6
    have h7 : F4 (m + 7) = some (.inr (0, 16, fun b9 => .int (nI (d7 b9)))) := (hag9 _ (by omega) (by omega)).trans h7
    have h8 : F4 (m + 8) = some (.inr (0, 17, fun b9 => .int (nI (b8 b9)))) := (hag9 _ (by omega) (by omega)).trans h8
    have hi : F4 (m + 10) = some (.inr (1, 60, fun b9 => .int (nI (ip b9)))) := (hag9 _ (by omega) (by omega)).trans hi
    have hcm : F4 (m + 11) = some (.inr (0, 183, fun b9 => .int (nI (cs b9)))) := (hag9 _ (by omega) (by omega)).trans hcm
    have ga : F4 (m + 1) = some (.inr (0, 4730, fun b9 => .int (nI (g b9)))) := (hag9 _ (by omega) (by omega)).trans ga
    have h2 : F4 (m + 2) = some (.inr (0, 8, fun b9 => .int (nI (ln1_14 b9)))) := (hag9 _ (by omega) (by omega)).trans h2
    have h3 : F4 (m + 3) = some (.inr (0, 8, fun b9 => .int (nI (vl1_14 b9)))) := (hag9 _ (by omega) (by omega)).trans h3
    have h4 : F4 (m + 4) = some (.inr (0, 8, fun b9 => .int (nI (gr1_14 b9)))) := (hag9 _ (by omega) (by omega)).trans h4
    have h5 : F4 (m + 5) = some (.inr (0, 8, fun b9 => .int (nI (gw1_14 b9)))) := (hag9 _ (by omega) (by omega)).trans h5
    have o0 : F4 (m) = some (.inl (10, [.int (nI ((if (97 ≤ c ∧ c < 105) then 0 else 1))), .ref (m + 1), .int (nI (un)), .int (nI (sv)), .int rs, .ref (m + 2), .ref (m + 3), .ref (m + 4), .ref (m + 5), .ref (m + 6), .int (nI (bm)), .ref (m + 7), .int (nI (dm)), .ref (m + 8), .ref (m + 9), .int (nI ((0 + 1))), .ref (m + 10), .int (nI (pn)), .int (nI (he)), .int er, .int ep, .int fc, .ref (m + 11), .int (nI (cn))])) := j0
    have h9 : F4 (m + 9) = some (.inr (1, 40, fun b9 => .int (nI ((updN ln 0 c) b9)))) := j1
    have hag : ∀ a9 : Nat, (a9 < m ∨ m + 12 ≤ a9) → F4 a9 = F a9 := fun a9 q0 => (hag9 a9 (by omega) (by omega)).trans (hag a9 q0)
    have hg_24 := hag9
    clear hag9
    refine x_aload_n hC d_MessageCoderModel_formatCode_27 rfl rfl ?_
    refine x_bipush hC d_MessageCoderModel_formatCode_28 (v := nI 61) (by decide) ?_
    refine x_callV hC kv_MessageCoderModel_233 (c_MessageCoderModel_writes (o0 := o0) (h9 := h9) (hc := by omega) (hlz := by omega)) o0 rfl rfl (by decide) rfl rfl rfl (Nat.le_of_ble_eq_true rfl) (by decide) d_MessageCoderModel_formatCode_30 (fun r9 F9 z9 hp9 => ?_)
    obtain ⟨rfl, h9c, j0, j1, hag9⟩ := hp9
    rw [h9c]
    clear h9c z9
    generalize F9 = F5 at *
    have h6 : F5 (m + 6) = some (.inr (0, 112, fun b9 => .int (nI (b6 b9)))) := (hag9 _ (by omega) (by omega)).trans h6
    have h7 : F5 (m + 7) = some (.inr (0, 16, fun b9 => .int (nI (d7 b9)))) := (hag9 _ (by omega) (by omega)).trans h7
    have h8 : F5 (m + 8) = some (.inr (0, 17, fun b9 => .int (nI (b8 b9)))) := (hag9 _ (by omega) (by omega)).trans h8
    have hi : F5 (m + 10) = some (.inr (1, 60, fun b9 => .int (nI (ip b9)))) := (hag9 _ (by omega) (by omega)).trans hi
    have hcm : F5 (m + 11) = some (.inr (0, 183, fun b9 => .int (nI (cs b9)))) := (hag9 _ (by omega) (by omega)).trans hcm
    have ga : F5 (m + 1) = some (.inr (0, 4730, fun b9 => .int (nI (g b9)))) := (hag9 _ (by omega) (by omega)).trans ga
    have h2 : F5 (m + 2) = some (.inr (0, 8, fun b9 => .int (nI (ln1_14 b9)))) := (hag9 _ (by omega) (by omega)).trans h2
    have h3 : F5 (m + 3) = some (.inr (0, 8, fun b9 => .int (nI (vl1_14 b9)))) := (hag9 _ (by omega) (by omega)).trans h3
    have h4 : F5 (m + 4) = some (.inr (0, 8, fun b9 => .int (nI (gr1_14 b9)))) := (hag9 _ (by omega) (by omega)).trans h4
    have h5 : F5 (m + 5) = some (.inr (0, 8, fun b9 => .int (nI (gw1_14 b9)))) := (hag9 _ (by omega) (by omega)).trans h5
    have o0 : F5 (m) = some (.inl (10, [.int (nI ((if (97 ≤ c ∧ c < 105) then 0 else 1))), .ref (m + 1), .int (nI (un)), .int (nI (sv)), .int rs, .ref (m + 2), .ref (m + 3), .ref (m + 4), .ref (m + 5), .ref (m + 6), .int (nI (bm)), .ref (m + 7), .int (nI (dm)), .ref (m + 8), .ref (m + 9), .int (nI ((1 + 1))), .ref (m + 10), .int (nI (pn)), .int (nI (he)), .int er, .int ep, .int fc, .ref (m + 11), .int (nI (cn))])) := j0
    have h9 : F5 (m + 9) = some (.inr (1, 40, fun b9 => .int (nI ((updN (updN ln 0 c) 1 61) b9)))) := j1
    have hag : ∀ a9 : Nat, (a9 < m ∨ m + 12 ≤ a9) → F5 a9 = F a9 := fun a9 q0 => (hag9 a9 (by omega) (by omega)).trans (hag a9 q0)
    have hg_30 := hag9
    clear hag9
    refine x_aload_n hC d_MessageCoderModel_formatCode_33 rfl rfl ?_
    refine x_getf hC kf_MessageCoderModel_13 o0 rfl d_MessageCoderModel_formatCode_34 ?_
    refine x_iload_n hC d_MessageCoderModel_formatCode_37 rfl rfl ?_
    refine x_bipush hC d_MessageCoderModel_formatCode_38 (v := nI 97) (by decide) ?_
    refine x_isub hC d_MessageCoderModel_formatCode_40 (v := (nI ((c) - 97))) (pk_sub (by omega)) ?_
    refine x_iald hC h2 (j := (c) - 97) ⟨rfl, by omega, by omega⟩ (x := nI ((hLen A.1 (c - 97)))) (congrArg nI hk9.1) d_MessageCoderModel_formatCode_41 ?_
    refine x_iconst hC d_MessageCoderModel_formatCode_42 (v := nI 1) (by decide) ?_
    refine x_isub hC d_MessageCoderModel_formatCode_43 (v := (nI (hLen A.1 (c - 97)) - nI (0 + 1))) rfl ?_
    refine x_istore_n hC d_MessageCoderModel_formatCode_44 rfl (Nat.le_of_ble_eq_true rfl) (L1 := [some (.ref m), some (.int (nI (c))), some (.int (nI (hLen A.1 (c - 97)) - nI (0 + 1)))]) rfl ?_
    have loop_45 : ∀ (m9 : Nat) (Fh45 : xF) (t : Nat) (lx : Nat → Nat), (Fh45 (m) = some (.inl (10, [.int (nI ((if 97 ≤ c ∧ c < 105 then 0 else 1))), .ref (m + 1), .int (nI (un)), .int (nI (sv)), .int rs, .ref (m + 2), .ref (m + 3), .ref (m + 4), .ref (m + 5), .ref (m + 6), .int (nI (bm)), .ref (m + 7), .int (nI (dm)), .ref (m + 8), .ref (m + 9), .int (nI ((2 + t))), .ref (m + 10), .int (nI (pn)), .int (nI (he)), .int er, .int ep, .int fc, .ref (m + 11), .int (nI (cn))]))) → (Fh45 (m + 1) = some (.inr (0, 4730, fun b9 => .int (nI (g b9))))) → (Fh45 (m + 2) = some (.inr (0, 8, fun b9 => .int (nI (ln1_14 b9))))) → (Fh45 (m + 3) = some (.inr (0, 8, fun b9 => .int (nI (vl1_14 b9))))) → (Fh45 (m + 4) = some (.inr (0, 8, fun b9 => .int (nI (gr1_14 b9))))) → (Fh45 (m + 5) = some (.inr (0, 8, fun b9 => .int (nI (gw1_14 b9))))) → (Fh45 (m + 6) = some (.inr (0, 112, fun b9 => .int (nI (b6 b9))))) → (Fh45 (m + 7) = some (.inr (0, 16, fun b9 => .int (nI (d7 b9))))) → (Fh45 (m + 8) = some (.inr (0, 17, fun b9 => .int (nI (b8 b9))))) → (Fh45 (m + 9) = some (.inr (1, 40, fun b9 => .int (nI (lx b9))))) → (Fh45 (m + 10) = some (.inr (1, 60, fun b9 => .int (nI (ip b9))))) → (Fh45 (m + 11) = some (.inr (0, 183, fun b9 => .int (nI (cs b9))))) → (∀ a9 : Nat, (a9 < m ∨ m + 12 ≤ a9) → Fh45 a9 = F a9) → (t ≤ (hLen A.1 (c - 97))) → (∀ j, j < 2 + t → lx j = fmC c (hLen A.1 (c - 97)) (hVal (hLen A.1) (c - 97)) j) → ((hLen A.1 (c - 97)) - t < m9) → xX P Θ 45 [some (.ref m), some (.int (nI (c))), some (.int (nI (hLen A.1 (c - 97)) - nI (t + 1)))] [] Fh45 (z) 0 0 := by
      intro m9
      induction m9 with
      | zero => intros; omega
      | succ m9 ih_45 =>
        intro Fh45 t lx o0 ga h2 h3 h4 h5 h6 h7 h8 h9 hi hcm hag hi9 kl hm_45
        refine x_iload_n hC d_MessageCoderModel_formatCode_45 rfl rfl ?_
        refine x_if_lt hC d_MessageCoderModel_formatCode_46 (tgt := 75) (by decide) (fun c_46 => ?_) (fun c_46 => ?_)
        · skip
          refine x_aload_n hC d_MessageCoderModel_formatCode_75 rfl rfl ?_
          refine x_getf hC kf_MessageCoderModel_227 o0 rfl d_MessageCoderModel_formatCode_76 ?_
          refine hret _ _ _ _ _ _ _ d_MessageCoderModel_formatCode_79 (by decide) (by decide) rfl ?_
          have ht9 : (hLen A.1 (c - 97)) ≤ t := by have := (x_sublt (by omega) (by omega)).mp c_46; omega
          have e8 : t = (hLen A.1 (c - 97)) := by omega
          have e1 : (if 97 ≤ c ∧ c < 105 then setL (A, S, past, (pn, psg), (lnn, lsg), sv, pp, un, ep, fc) (2 + (hLen A.1 (c - 97))) (fmC c (hLen A.1 (c - 97)) (hVal (hLen A.1) (c - 97))) else (A, S, past, (pn, psg), (lnn, lsg), sv, pp, un, ep, fc)) = setL (A, S, past, (pn, psg), (lnn, lsg), sv, pp, un, ep, fc) (2 + (hLen A.1 (c - 97))) (fmC c (hLen A.1 (c - 97)) (hVal (hLen A.1) (c - 97))) := if_pos c_8
          exact ⟨congrArg (fun q => some (Value.int (nI q))) ((by rw [e8]; exact (if_pos c_8).symm)), rfl, (by show xMD _ m (if 97 ≤ c ∧ c < 105 then 0 else 1) (if 97 ≤ c ∧ c < 105 then setL (A, S, past, (pn, psg), (lnn, lsg), sv, pp, un, ep, fc) (2 + (hLen A.1 (c - 97))) (fmC c (hLen A.1 (c - 97)) (hVal (hLen A.1) (c - 97))) else (A, S, past, (pn, psg), (lnn, lsg), sv, pp, un, ep, fc)); rw [e1]; exact ⟨_, _, _, _, _, _, _, _, _, _, _, _, _, _, _, _, _, (by rw [e8] at o0; exact o0), ga, h2, h3, h4, h5, h6, h7, h8, h9, hi, hcm, hg, (fun j hj => kl j (by rw [e8]; exact hj)), hip⟩), hag⟩
        · skip
          have ht8 : ¬ (hLen A.1 (c - 97)) < t + 1 := fun e => c_46 ((x_sublt (by omega) (by omega)).mpr e)
          refine x_aload_n hC d_MessageCoderModel_formatCode_49 rfl rfl ?_
          refine x_bipush hC d_MessageCoderModel_formatCode_50 (v := nI 48) (by decide) ?_
          refine x_aload_n hC d_MessageCoderModel_formatCode_52 rfl rfl ?_
          refine x_getf hC kf_MessageCoderModel_16 o0 rfl d_MessageCoderModel_formatCode_53 ?_
          refine x_iload_n hC d_MessageCoderModel_formatCode_56 rfl rfl ?_
          refine x_bipush hC d_MessageCoderModel_formatCode_57 (v := nI 97) (by decide) ?_
          refine x_isub hC d_MessageCoderModel_formatCode_59 (v := (nI ((c) - 97))) (pk_sub (by omega)) ?_
          refine x_iald hC h3 (j := (c) - 97) ⟨rfl, by omega, by omega⟩ (x := nI ((hVal (hLen A.1) (c - 97)))) (congrArg nI hk9.2) d_MessageCoderModel_formatCode_60 ?_
          refine x_iload_n hC d_MessageCoderModel_formatCode_61 rfl rfl ?_
          refine x_ishr hC d_MessageCoderModel_formatCode_62 (v := (nI ((hVal (hLen A.1) (c - 97)) / 2 ^ ((hLen A.1 (c - 97)) - (t + 1))))) (by rw [pk_sub (by omega)]; exact x_shrN _ (by omega) (Nat.lt_of_le_of_lt (Nat.le_refl _) (by omega)) rfl) ?_
          refine x_iconst hC d_MessageCoderModel_formatCode_63 (v := nI 1) (by decide) ?_
          refine x_iand hC d_MessageCoderModel_formatCode_64 (v := (nI ((hVal (hLen A.1) (c - 97)) / 2 ^ ((hLen A.1 (c - 97)) - (t + 1)) % 2))) (x_and1 (Nat.lt_of_le_of_lt (Nat.div_le_self _ _) (by omega))) ?_
          refine x_iadd hC d_MessageCoderModel_formatCode_65 (v := (nI ((48) + ((hVal (hLen A.1) (c - 97)) / 2 ^ ((hLen A.1 (c - 97)) - (t + 1)) % 2)))) (x_addN (by omega)) ?_
          refine x_callV hC kv_MessageCoderModel_233 (c_MessageCoderModel_writes (o0 := o0) (h9 := h9) (hc := by omega) (hlz := by omega)) o0 rfl rfl (by decide) rfl rfl rfl (Nat.le_of_ble_eq_true rfl) (by decide) d_MessageCoderModel_formatCode_66 (fun r9 F9 z9 hp9 => ?_)
          obtain ⟨rfl, h9c, j0, j1, hag9⟩ := hp9
          rw [h9c]
          clear h9c z9
          generalize F9 = F6 at *
          have ga : F6 (m + 1) = some (.inr (0, 4730, fun b9 => .int (nI (g b9)))) := (hag9 _ (by omega) (by omega)).trans ga
          have h2 : F6 (m + 2) = some (.inr (0, 8, fun b9 => .int (nI (ln1_14 b9)))) := (hag9 _ (by omega) (by omega)).trans h2
          have h3 : F6 (m + 3) = some (.inr (0, 8, fun b9 => .int (nI (vl1_14 b9)))) := (hag9 _ (by omega) (by omega)).trans h3
          have h4 : F6 (m + 4) = some (.inr (0, 8, fun b9 => .int (nI (gr1_14 b9)))) := (hag9 _ (by omega) (by omega)).trans h4
          have h5 : F6 (m + 5) = some (.inr (0, 8, fun b9 => .int (nI (gw1_14 b9)))) := (hag9 _ (by omega) (by omega)).trans h5
          have h6 : F6 (m + 6) = some (.inr (0, 112, fun b9 => .int (nI (b6 b9)))) := (hag9 _ (by omega) (by omega)).trans h6
          have h7 : F6 (m + 7) = some (.inr (0, 16, fun b9 => .int (nI (d7 b9)))) := (hag9 _ (by omega) (by omega)).trans h7
          have h8 : F6 (m + 8) = some (.inr (0, 17, fun b9 => .int (nI (b8 b9)))) := (hag9 _ (by omega) (by omega)).trans h8
          have hi : F6 (m + 10) = some (.inr (1, 60, fun b9 => .int (nI (ip b9)))) := (hag9 _ (by omega) (by omega)).trans hi
          have hcm : F6 (m + 11) = some (.inr (0, 183, fun b9 => .int (nI (cs b9)))) := (hag9 _ (by omega) (by omega)).trans hcm
          have o0 : F6 (m) = some (.inl (10, [.int (nI ((if 97 ≤ c ∧ c < 105 then 0 else 1))), .ref (m + 1), .int (nI (un)), .int (nI (sv)), .int rs, .ref (m + 2), .ref (m + 3), .ref (m + 4), .ref (m + 5), .ref (m + 6), .int (nI (bm)), .ref (m + 7), .int (nI (dm)), .ref (m + 8), .ref (m + 9), .int (nI (((2 + t) + 1))), .ref (m + 10), .int (nI (pn)), .int (nI (he)), .int er, .int ep, .int fc, .ref (m + 11), .int (nI (cn))])) := j0
          have h9 : F6 (m + 9) = some (.inr (1, 40, fun b9 => .int (nI ((updN lx (2 + t) ((48) + ((hVal (hLen A.1) (c - 97)) / 2 ^ ((hLen A.1 (c - 97)) - (t + 1)) % 2))) b9)))) := j1
          have hag : ∀ a9 : Nat, (a9 < m ∨ m + 12 ≤ a9) → F6 a9 = F a9 := fun a9 q0 => (hag9 a9 (by omega) (by omega)).trans (hag a9 q0)
          have hg_66 := hag9
          clear hag9
          refine x_iinc hC d_MessageCoderModel_formatCode_69 rfl (v := (nI (hLen A.1 (c - 97)) - nI ((t + 1) + 1))) (x_sub1 _ _) (Nat.le_of_ble_eq_true rfl) (L1 := [some (.ref m), some (.int (nI (c))), some (.int (nI (hLen A.1 (c - 97)) - nI ((t + 1) + 1)))]) rfl ?_
          refine x_goto hC d_MessageCoderModel_formatCode_72 (tgt := 45) (by decide) ?_
          exact ih_45 F6 (t + 1) ((updN lx (2 + t) ((48) + ((hVal (hLen A.1) (c - 97)) / 2 ^ ((hLen A.1 (c - 97)) - (t + 1)) % 2)))) o0 ga h2 h3 h4 h5 h6 h7 h8 h9 hi hcm hag (by omega) (fun j hj => by by_cases e : j = 2 + t; (rw [e, updN_eq]; unfold fmC codeB; rw [if_neg (by omega), if_neg (by omega), show 2 + t - 2 = t by omega, show (hLen A.1 (c - 97)) - 1 - t = (hLen A.1 (c - 97)) - (t + 1) by omega]); (rw [updN_ne e]; exact kl j (by omega))) (by omega)
    exact loop_45 ((hLen A.1 (c - 97)) - 0 + 1) F5 (0) ((updN (updN ln 0 c) (0 + 1) 61)) o0 ga h2 h3 h4 h5 h6 h7 h8 h9 hi hcm hag (by omega) (fun j hj => by unfold fmC; by_cases e : j = 0; (rw [e, updN_ne (by omega), updN_eq, if_pos rfl]); (rw [show j = 0 + 1 by omega, updN_eq, if_neg (by omega), if_pos (by omega)])) (by omega)
  · skip
    refine x_iconst hC d_MessageCoderModel_formatCode_11 (v := nI 0) (by decide) ?_
    refine hret _ _ _ _ _ _ _ d_MessageCoderModel_formatCode_12 (by decide) (by decide) rfl ?_
    have e1 : (if 97 ≤ c ∧ c < 105 then setL (A, S, past, (pn, psg), (lnn, lsg), sv, pp, un, ep, fc) (2 + (hLen A.1 (c - 97))) (fmC c (hLen A.1 (c - 97)) (hVal (hLen A.1) (c - 97))) else (A, S, past, (pn, psg), (lnn, lsg), sv, pp, un, ep, fc)) = (A, S, past, (pn, psg), (lnn, lsg), sv, pp, un, ep, fc) := if_neg c_8
    exact ⟨congrArg (fun q => some (Value.int (nI q))) ((if_neg c_8).symm), rfl, (by show xMD _ m (if 97 ≤ c ∧ c < 105 then 0 else 1) (if 97 ≤ c ∧ c < 105 then setL (A, S, past, (pn, psg), (lnn, lsg), sv, pp, un, ep, fc) (2 + (hLen A.1 (c - 97))) (fmC c (hLen A.1 (c - 97)) (hVal (hLen A.1) (c - 97))) else (A, S, past, (pn, psg), (lnn, lsg), sv, pp, un, ep, fc)); rw [e1]; exact ⟨_, _, _, _, _, _, _, _, _, _, _, _, _, _, _, _, _, o0, ga, h2, h3, h4, h5, h6, h7, h8, h9, hi, hcm, hg, hln, hip⟩), hag⟩

theorem d_MessageCoderModel_init_0 : decode prog_14_method_1_code 0 = .ok (.aload_n 0, 1) := by decide +kernel
theorem d_MessageCoderModel_init_1 : decode prog_14_method_1_code 1 = .ok (.invokespecial 1, 3) := by decide +kernel
theorem d_MessageCoderModel_init_4 : decode prog_14_method_1_code 4 = .ok (.aload_n 0, 1) := by decide +kernel
theorem d_MessageCoderModel_init_5 : decode prog_14_method_1_code 5 = .ok (.sipush 4730, 3) := by decide +kernel
theorem d_MessageCoderModel_init_8 : decode prog_14_method_1_code 8 = .ok (.newarray .int, 2) := by decide +kernel
theorem d_MessageCoderModel_init_10 : decode prog_14_method_1_code 10 = .ok (.putfield 9, 3) := by decide +kernel
theorem d_MessageCoderModel_init_13 : decode prog_14_method_1_code 13 = .ok (.aload_n 0, 1) := by decide +kernel
theorem d_MessageCoderModel_init_14 : decode prog_14_method_1_code 14 = .ok (.bipush 8, 2) := by decide +kernel
theorem d_MessageCoderModel_init_16 : decode prog_14_method_1_code 16 = .ok (.newarray .int, 2) := by decide +kernel
theorem d_MessageCoderModel_init_18 : decode prog_14_method_1_code 18 = .ok (.putfield 13, 3) := by decide +kernel
theorem d_MessageCoderModel_init_21 : decode prog_14_method_1_code 21 = .ok (.aload_n 0, 1) := by decide +kernel
theorem d_MessageCoderModel_init_22 : decode prog_14_method_1_code 22 = .ok (.bipush 8, 2) := by decide +kernel
theorem d_MessageCoderModel_init_24 : decode prog_14_method_1_code 24 = .ok (.newarray .int, 2) := by decide +kernel
theorem d_MessageCoderModel_init_26 : decode prog_14_method_1_code 26 = .ok (.putfield 16, 3) := by decide +kernel
theorem d_MessageCoderModel_init_29 : decode prog_14_method_1_code 29 = .ok (.aload_n 0, 1) := by decide +kernel
theorem d_MessageCoderModel_init_30 : decode prog_14_method_1_code 30 = .ok (.bipush 8, 2) := by decide +kernel
theorem d_MessageCoderModel_init_32 : decode prog_14_method_1_code 32 = .ok (.newarray .int, 2) := by decide +kernel
theorem d_MessageCoderModel_init_34 : decode prog_14_method_1_code 34 = .ok (.putfield 19, 3) := by decide +kernel
theorem d_MessageCoderModel_init_37 : decode prog_14_method_1_code 37 = .ok (.aload_n 0, 1) := by decide +kernel
theorem d_MessageCoderModel_init_38 : decode prog_14_method_1_code 38 = .ok (.bipush 8, 2) := by decide +kernel
theorem d_MessageCoderModel_init_40 : decode prog_14_method_1_code 40 = .ok (.newarray .int, 2) := by decide +kernel
theorem d_MessageCoderModel_init_42 : decode prog_14_method_1_code 42 = .ok (.putfield 22, 3) := by decide +kernel
theorem d_MessageCoderModel_init_45 : decode prog_14_method_1_code 45 = .ok (.aload_n 0, 1) := by decide +kernel
theorem d_MessageCoderModel_init_46 : decode prog_14_method_1_code 46 = .ok (.bipush 112, 2) := by decide +kernel
theorem d_MessageCoderModel_init_48 : decode prog_14_method_1_code 48 = .ok (.newarray .int, 2) := by decide +kernel
theorem d_MessageCoderModel_init_50 : decode prog_14_method_1_code 50 = .ok (.putfield 25, 3) := by decide +kernel
theorem d_MessageCoderModel_init_53 : decode prog_14_method_1_code 53 = .ok (.aload_n 0, 1) := by decide +kernel
theorem d_MessageCoderModel_init_54 : decode prog_14_method_1_code 54 = .ok (.bipush 16, 2) := by decide +kernel
theorem d_MessageCoderModel_init_56 : decode prog_14_method_1_code 56 = .ok (.newarray .int, 2) := by decide +kernel
theorem d_MessageCoderModel_init_58 : decode prog_14_method_1_code 58 = .ok (.putfield 28, 3) := by decide +kernel
theorem d_MessageCoderModel_init_61 : decode prog_14_method_1_code 61 = .ok (.aload_n 0, 1) := by decide +kernel
theorem d_MessageCoderModel_init_62 : decode prog_14_method_1_code 62 = .ok (.bipush 17, 2) := by decide +kernel
theorem d_MessageCoderModel_init_64 : decode prog_14_method_1_code 64 = .ok (.newarray .int, 2) := by decide +kernel
theorem d_MessageCoderModel_init_66 : decode prog_14_method_1_code 66 = .ok (.putfield 31, 3) := by decide +kernel
theorem d_MessageCoderModel_init_69 : decode prog_14_method_1_code 69 = .ok (.aload_n 0, 1) := by decide +kernel
theorem d_MessageCoderModel_init_70 : decode prog_14_method_1_code 70 = .ok (.bipush 40, 2) := by decide +kernel
theorem d_MessageCoderModel_init_72 : decode prog_14_method_1_code 72 = .ok (.newarray .char, 2) := by decide +kernel
theorem d_MessageCoderModel_init_74 : decode prog_14_method_1_code 74 = .ok (.putfield 34, 3) := by decide +kernel
theorem d_MessageCoderModel_init_77 : decode prog_14_method_1_code 77 = .ok (.aload_n 0, 1) := by decide +kernel
theorem d_MessageCoderModel_init_78 : decode prog_14_method_1_code 78 = .ok (.bipush 60, 2) := by decide +kernel
theorem d_MessageCoderModel_init_80 : decode prog_14_method_1_code 80 = .ok (.newarray .char, 2) := by decide +kernel
theorem d_MessageCoderModel_init_82 : decode prog_14_method_1_code 82 = .ok (.putfield 38, 3) := by decide +kernel
theorem d_MessageCoderModel_init_85 : decode prog_14_method_1_code 85 = .ok (.aload_n 0, 1) := by decide +kernel
theorem d_MessageCoderModel_init_86 : decode prog_14_method_1_code 86 = .ok (.iconst (-1), 1) := by decide +kernel
theorem d_MessageCoderModel_init_87 : decode prog_14_method_1_code 87 = .ok (.putfield 41, 3) := by decide +kernel
theorem d_MessageCoderModel_init_90 : decode prog_14_method_1_code 90 = .ok (.aload_n 0, 1) := by decide +kernel
theorem d_MessageCoderModel_init_91 : decode prog_14_method_1_code 91 = .ok (.iconst (-1), 1) := by decide +kernel
theorem d_MessageCoderModel_init_92 : decode prog_14_method_1_code 92 = .ok (.putfield 45, 3) := by decide +kernel
theorem d_MessageCoderModel_init_95 : decode prog_14_method_1_code 95 = .ok (.aload_n 0, 1) := by decide +kernel
theorem d_MessageCoderModel_init_96 : decode prog_14_method_1_code 96 = .ok (.sipush 183, 3) := by decide +kernel
theorem d_MessageCoderModel_init_99 : decode prog_14_method_1_code 99 = .ok (.newarray .int, 2) := by decide +kernel
theorem d_MessageCoderModel_init_101 : decode prog_14_method_1_code 101 = .ok (.putfield 48, 3) := by decide +kernel
theorem d_MessageCoderModel_init_104 : decode prog_14_method_1_code 104 = .ok (.iconst 0, 1) := by decide +kernel
theorem d_MessageCoderModel_init_105 : decode prog_14_method_1_code 105 = .ok (.istore_n 1, 1) := by decide +kernel
theorem d_MessageCoderModel_init_106 : decode prog_14_method_1_code 106 = .ok (.iload_n 1, 1) := by decide +kernel
theorem d_MessageCoderModel_init_107 : decode prog_14_method_1_code 107 = .ok (.bipush 8, 2) := by decide +kernel
theorem d_MessageCoderModel_init_109 : decode prog_14_method_1_code 109 = .ok (.if_icmp .ge 19, 3) := by decide +kernel
theorem d_MessageCoderModel_init_112 : decode prog_14_method_1_code 112 = .ok (.aload_n 0, 1) := by decide +kernel
theorem d_MessageCoderModel_init_113 : decode prog_14_method_1_code 113 = .ok (.getfield 9, 3) := by decide +kernel
theorem d_MessageCoderModel_init_116 : decode prog_14_method_1_code 116 = .ok (.bipush 10, 2) := by decide +kernel
theorem d_MessageCoderModel_init_118 : decode prog_14_method_1_code 118 = .ok (.iload_n 1, 1) := by decide +kernel
theorem d_MessageCoderModel_init_119 : decode prog_14_method_1_code 119 = .ok (.iadd, 1) := by decide +kernel
theorem d_MessageCoderModel_init_120 : decode prog_14_method_1_code 120 = .ok (.iconst 1, 1) := by decide +kernel
theorem d_MessageCoderModel_init_121 : decode prog_14_method_1_code 121 = .ok (.iastore, 1) := by decide +kernel
theorem d_MessageCoderModel_init_122 : decode prog_14_method_1_code 122 = .ok (.iinc 1 1, 3) := by decide +kernel
theorem d_MessageCoderModel_init_125 : decode prog_14_method_1_code 125 = .ok (.goto (-19), 3) := by decide +kernel
theorem d_MessageCoderModel_init_128 : decode prog_14_method_1_code 128 = .ok (.return_, 1) := by decide +kernel
set_option maxHeartbeats 4000000 in
set_option maxRecDepth 20000 in
theorem c_MessageCoderModel_init {P : xP} {F : xF} {m : Nat} (o0 : F (m) = some (.inl (10, [.int (nI 0), .null, .int (nI 0), .int (nI 0), .int (nI 0), .null, .null, .null, .null, .null, .int (nI 0), .null, .int (nI 0), .null, .null, .int (nI 0), .null, .int (nI 0), .int (nI 0), .int (nI 0), .int (nI 0), .int (nI 0), .null, .int (nI 0)])))  : xM P xy_MessageCoderModel_init [.ref m] F (m + 1) 11 5190 (fun r9 F9 z9 => r9 = none ∧ z9 = m + 12 ∧ xMD F9 (m) (0) (mc0) ∧ (∀ a9 : Nat, (a9 < m ∨ m + 12 ≤ a9) → F9 a9 = F a9)) := by
  refine xM_v rfl (Nat.le_of_ble_eq_true rfl) (L0 := [some (.ref m), none]) rfl rfl fun Θ hC hin hret => ?_
  have hag : ∀ a9 : Nat, (a9 < m ∨ m + 12 ≤ a9) → F a9 = F a9 := fun a9 _ => rfl
  refine x_aload_n hC d_MessageCoderModel_init_0 rfl rfl ?_
  refine x_objInit hC ko_MessageCoderModel_1 rfl (by decide) (Nat.le_of_ble_eq_true rfl) d_MessageCoderModel_init_1 ?_
  refine x_aload_n hC d_MessageCoderModel_init_4 rfl rfl ?_
  refine x_sipush hC d_MessageCoderModel_init_5 (v := nI 4730) (by decide) ?_
  refine x_newa hC (t := 0) rfl (by decide) (by decide) (x_in (x_of (xtb_1 (List.mem_of_getElem? (i := 101) (by decide +kernel)))) (by decide +kernel)) rfl (by omega) (by decide) (by decide) (f1 := fun b9 => .int (nI ((fun _ => 0) b9))) rfl d_MessageCoderModel_init_8 ?_
  generalize e1 : xup F (m + 1) (.inr (0, 4730, fun b9 => .int (nI ((fun _ => 0) b9)))) = F1
  have o0 : F1 (m) = some (.inl (10, [.int (nI 0), .null, .int (nI 0), .int (nI 0), .int (nI 0), .null, .null, .null, .null, .null, .int (nI 0), .null, .int (nI 0), .null, .null, .int (nI 0), .null, .int (nI 0), .int (nI 0), .int (nI 0), .int (nI 0), .int (nI 0), .null, .int (nI 0)])) := by rw [← e1]; exact (xup_ne (by omega)).trans o0
  have ga : F1 (m + 1) = some (.inr (0, 4730, fun b9 => .int (nI ((fun _ => 0) b9)))) := by rw [← e1]; exact xup_eq
  have hag : ∀ a9 : Nat, (a9 < m ∨ m + 12 ≤ a9) → F1 a9 = F a9 := fun a9 q0 => by rw [← e1]; exact (xup_ne (by omega)).trans (hag a9 q0)
  refine x_putF hC hin kk_MessageCoderModel_9 o0 (Nat.le_of_ble_eq_true rfl) rfl rfl d_MessageCoderModel_init_10 (fs1 := [.int (nI 0), .ref (m + 1), .int (nI 0), .int (nI 0), .int (nI 0), .null, .null, .null, .null, .null, .int (nI 0), .null, .int (nI 0), .null, .null, .int (nI 0), .null, .int (nI 0), .int (nI 0), .int (nI 0), .int (nI 0), .int (nI 0), .null, .int (nI 0)]) rfl ?_
  generalize e2 : xup F1 (m) (.inl (10, [.int (nI 0), .ref (m + 1), .int (nI 0), .int (nI 0), .int (nI 0), .null, .null, .null, .null, .null, .int (nI 0), .null, .int (nI 0), .null, .null, .int (nI 0), .null, .int (nI 0), .int (nI 0), .int (nI 0), .int (nI 0), .int (nI 0), .null, .int (nI 0)])) = F2
  have o0 : F2 (m) = some (.inl (10, [.int (nI 0), .ref (m + 1), .int (nI 0), .int (nI 0), .int (nI 0), .null, .null, .null, .null, .null, .int (nI 0), .null, .int (nI 0), .null, .null, .int (nI 0), .null, .int (nI 0), .int (nI 0), .int (nI 0), .int (nI 0), .int (nI 0), .null, .int (nI 0)])) := by rw [← e2]; exact xup_eq
  have ga : F2 (m + 1) = some (.inr (0, 4730, fun b9 => .int (nI ((fun _ => 0) b9)))) := by rw [← e2]; exact (xup_ne (by omega)).trans ga
  have hag : ∀ a9 : Nat, (a9 < m ∨ m + 12 ≤ a9) → F2 a9 = F a9 := fun a9 q0 => by rw [← e2]; exact (xup_ne (by omega)).trans (hag a9 q0)
  refine x_aload_n hC d_MessageCoderModel_init_13 rfl rfl ?_
  refine x_bipush hC d_MessageCoderModel_init_14 (v := nI 8) (by decide) ?_
  refine x_newa hC (t := 0) rfl (by decide) (by decide) (x_in (x_of (xtb_1 (List.mem_of_getElem? (i := 101) (by decide +kernel)))) (by decide +kernel)) rfl (by omega) (by decide) (by decide) (f1 := fun b9 => .int (nI ((fun _ => 0) b9))) rfl d_MessageCoderModel_init_16 ?_
  generalize e3 : xup F2 (m + 2) (.inr (0, 8, fun b9 => .int (nI ((fun _ => 0) b9)))) = F3
  have o0 : F3 (m) = some (.inl (10, [.int (nI 0), .ref (m + 1), .int (nI 0), .int (nI 0), .int (nI 0), .null, .null, .null, .null, .null, .int (nI 0), .null, .int (nI 0), .null, .null, .int (nI 0), .null, .int (nI 0), .int (nI 0), .int (nI 0), .int (nI 0), .int (nI 0), .null, .int (nI 0)])) := by rw [← e3]; exact (xup_ne (by omega)).trans o0
  have ga : F3 (m + 1) = some (.inr (0, 4730, fun b9 => .int (nI ((fun _ => 0) b9)))) := by rw [← e3]; exact (xup_ne (by omega)).trans ga
  have h2 : F3 (m + 2) = some (.inr (0, 8, fun b9 => .int (nI ((fun _ => 0) b9)))) := by rw [← e3]; exact xup_eq
  have hag : ∀ a9 : Nat, (a9 < m ∨ m + 12 ≤ a9) → F3 a9 = F a9 := fun a9 q0 => by rw [← e3]; exact (xup_ne (by omega)).trans (hag a9 q0)
  refine x_putF hC hin kk_MessageCoderModel_13 o0 (Nat.le_of_ble_eq_true rfl) rfl rfl d_MessageCoderModel_init_18 (fs1 := [.int (nI 0), .ref (m + 1), .int (nI 0), .int (nI 0), .int (nI 0), .ref (m + 2), .null, .null, .null, .null, .int (nI 0), .null, .int (nI 0), .null, .null, .int (nI 0), .null, .int (nI 0), .int (nI 0), .int (nI 0), .int (nI 0), .int (nI 0), .null, .int (nI 0)]) rfl ?_
  generalize e4 : xup F3 (m) (.inl (10, [.int (nI 0), .ref (m + 1), .int (nI 0), .int (nI 0), .int (nI 0), .ref (m + 2), .null, .null, .null, .null, .int (nI 0), .null, .int (nI 0), .null, .null, .int (nI 0), .null, .int (nI 0), .int (nI 0), .int (nI 0), .int (nI 0), .int (nI 0), .null, .int (nI 0)])) = F4
  have o0 : F4 (m) = some (.inl (10, [.int (nI 0), .ref (m + 1), .int (nI 0), .int (nI 0), .int (nI 0), .ref (m + 2), .null, .null, .null, .null, .int (nI 0), .null, .int (nI 0), .null, .null, .int (nI 0), .null, .int (nI 0), .int (nI 0), .int (nI 0), .int (nI 0), .int (nI 0), .null, .int (nI 0)])) := by rw [← e4]; exact xup_eq
  have ga : F4 (m + 1) = some (.inr (0, 4730, fun b9 => .int (nI ((fun _ => 0) b9)))) := by rw [← e4]; exact (xup_ne (by omega)).trans ga
  have h2 : F4 (m + 2) = some (.inr (0, 8, fun b9 => .int (nI ((fun _ => 0) b9)))) := by rw [← e4]; exact (xup_ne (by omega)).trans h2
  have hag : ∀ a9 : Nat, (a9 < m ∨ m + 12 ≤ a9) → F4 a9 = F a9 := fun a9 q0 => by rw [← e4]; exact (xup_ne (by omega)).trans (hag a9 q0)
  refine x_aload_n hC d_MessageCoderModel_init_21 rfl rfl ?_
  refine x_bipush hC d_MessageCoderModel_init_22 (v := nI 8) (by decide) ?_
  refine x_newa hC (t := 0) rfl (by decide) (by decide) (x_in (x_of (xtb_1 (List.mem_of_getElem? (i := 101) (by decide +kernel)))) (by decide +kernel)) rfl (by omega) (by decide) (by decide) (f1 := fun b9 => .int (nI ((fun _ => 0) b9))) rfl d_MessageCoderModel_init_24 ?_
  generalize e5 : xup F4 (m + 3) (.inr (0, 8, fun b9 => .int (nI ((fun _ => 0) b9)))) = F5
  have o0 : F5 (m) = some (.inl (10, [.int (nI 0), .ref (m + 1), .int (nI 0), .int (nI 0), .int (nI 0), .ref (m + 2), .null, .null, .null, .null, .int (nI 0), .null, .int (nI 0), .null, .null, .int (nI 0), .null, .int (nI 0), .int (nI 0), .int (nI 0), .int (nI 0), .int (nI 0), .null, .int (nI 0)])) := by rw [← e5]; exact (xup_ne (by omega)).trans o0
  have ga : F5 (m + 1) = some (.inr (0, 4730, fun b9 => .int (nI ((fun _ => 0) b9)))) := by rw [← e5]; exact (xup_ne (by omega)).trans ga
  have h2 : F5 (m + 2) = some (.inr (0, 8, fun b9 => .int (nI ((fun _ => 0) b9)))) := by rw [← e5]; exact (xup_ne (by omega)).trans h2
  have h3 : F5 (m + 3) = some (.inr (0, 8, fun b9 => .int (nI ((fun _ => 0) b9)))) := by rw [← e5]; exact xup_eq
  have hag : ∀ a9 : Nat, (a9 < m ∨ m + 12 ≤ a9) → F5 a9 = F a9 := fun a9 q0 => by rw [← e5]; exact (xup_ne (by omega)).trans (hag a9 q0)
  refine x_putF hC hin kk_MessageCoderModel_16 o0 (Nat.le_of_ble_eq_true rfl) rfl rfl d_MessageCoderModel_init_26 (fs1 := [.int (nI 0), .ref (m + 1), .int (nI 0), .int (nI 0), .int (nI 0), .ref (m + 2), .ref (m + 3), .null, .null, .null, .int (nI 0), .null, .int (nI 0), .null, .null, .int (nI 0), .null, .int (nI 0), .int (nI 0), .int (nI 0), .int (nI 0), .int (nI 0), .null, .int (nI 0)]) rfl ?_
  generalize e6 : xup F5 (m) (.inl (10, [.int (nI 0), .ref (m + 1), .int (nI 0), .int (nI 0), .int (nI 0), .ref (m + 2), .ref (m + 3), .null, .null, .null, .int (nI 0), .null, .int (nI 0), .null, .null, .int (nI 0), .null, .int (nI 0), .int (nI 0), .int (nI 0), .int (nI 0), .int (nI 0), .null, .int (nI 0)])) = F6
  have o0 : F6 (m) = some (.inl (10, [.int (nI 0), .ref (m + 1), .int (nI 0), .int (nI 0), .int (nI 0), .ref (m + 2), .ref (m + 3), .null, .null, .null, .int (nI 0), .null, .int (nI 0), .null, .null, .int (nI 0), .null, .int (nI 0), .int (nI 0), .int (nI 0), .int (nI 0), .int (nI 0), .null, .int (nI 0)])) := by rw [← e6]; exact xup_eq
  have ga : F6 (m + 1) = some (.inr (0, 4730, fun b9 => .int (nI ((fun _ => 0) b9)))) := by rw [← e6]; exact (xup_ne (by omega)).trans ga
  have h2 : F6 (m + 2) = some (.inr (0, 8, fun b9 => .int (nI ((fun _ => 0) b9)))) := by rw [← e6]; exact (xup_ne (by omega)).trans h2
  have h3 : F6 (m + 3) = some (.inr (0, 8, fun b9 => .int (nI ((fun _ => 0) b9)))) := by rw [← e6]; exact (xup_ne (by omega)).trans h3
  have hag : ∀ a9 : Nat, (a9 < m ∨ m + 12 ≤ a9) → F6 a9 = F a9 := fun a9 q0 => by rw [← e6]; exact (xup_ne (by omega)).trans (hag a9 q0)
  refine x_aload_n hC d_MessageCoderModel_init_29 rfl rfl ?_
  refine x_bipush hC d_MessageCoderModel_init_30 (v := nI 8) (by decide) ?_
  refine x_newa hC (t := 0) rfl (by decide) (by decide) (x_in (x_of (xtb_1 (List.mem_of_getElem? (i := 101) (by decide +kernel)))) (by decide +kernel)) rfl (by omega) (by decide) (by decide) (f1 := fun b9 => .int (nI ((fun _ => 0) b9))) rfl d_MessageCoderModel_init_32 ?_
  generalize e7 : xup F6 (m + 4) (.inr (0, 8, fun b9 => .int (nI ((fun _ => 0) b9)))) = F7
  have o0 : F7 (m) = some (.inl (10, [.int (nI 0), .ref (m + 1), .int (nI 0), .int (nI 0), .int (nI 0), .ref (m + 2), .ref (m + 3), .null, .null, .null, .int (nI 0), .null, .int (nI 0), .null, .null, .int (nI 0), .null, .int (nI 0), .int (nI 0), .int (nI 0), .int (nI 0), .int (nI 0), .null, .int (nI 0)])) := by rw [← e7]; exact (xup_ne (by omega)).trans o0
  have ga : F7 (m + 1) = some (.inr (0, 4730, fun b9 => .int (nI ((fun _ => 0) b9)))) := by rw [← e7]; exact (xup_ne (by omega)).trans ga
  have h2 : F7 (m + 2) = some (.inr (0, 8, fun b9 => .int (nI ((fun _ => 0) b9)))) := by rw [← e7]; exact (xup_ne (by omega)).trans h2
  have h3 : F7 (m + 3) = some (.inr (0, 8, fun b9 => .int (nI ((fun _ => 0) b9)))) := by rw [← e7]; exact (xup_ne (by omega)).trans h3
  have h4 : F7 (m + 4) = some (.inr (0, 8, fun b9 => .int (nI ((fun _ => 0) b9)))) := by rw [← e7]; exact xup_eq
  have hag : ∀ a9 : Nat, (a9 < m ∨ m + 12 ≤ a9) → F7 a9 = F a9 := fun a9 q0 => by rw [← e7]; exact (xup_ne (by omega)).trans (hag a9 q0)
  refine x_putF hC hin kk_MessageCoderModel_19 o0 (Nat.le_of_ble_eq_true rfl) rfl rfl d_MessageCoderModel_init_34 (fs1 := [.int (nI 0), .ref (m + 1), .int (nI 0), .int (nI 0), .int (nI 0), .ref (m + 2), .ref (m + 3), .ref (m + 4), .null, .null, .int (nI 0), .null, .int (nI 0), .null, .null, .int (nI 0), .null, .int (nI 0), .int (nI 0), .int (nI 0), .int (nI 0), .int (nI 0), .null, .int (nI 0)]) rfl ?_
  generalize e8 : xup F7 (m) (.inl (10, [.int (nI 0), .ref (m + 1), .int (nI 0), .int (nI 0), .int (nI 0), .ref (m + 2), .ref (m + 3), .ref (m + 4), .null, .null, .int (nI 0), .null, .int (nI 0), .null, .null, .int (nI 0), .null, .int (nI 0), .int (nI 0), .int (nI 0), .int (nI 0), .int (nI 0), .null, .int (nI 0)])) = F8
  have o0 : F8 (m) = some (.inl (10, [.int (nI 0), .ref (m + 1), .int (nI 0), .int (nI 0), .int (nI 0), .ref (m + 2), .ref (m + 3), .ref (m + 4), .null, .null, .int (nI 0), .null, .int (nI 0), .null, .null, .int (nI 0), .null, .int (nI 0), .int (nI 0), .int (nI 0), .int (nI 0), .int (nI 0), .null, .int (nI 0)])) := by rw [← e8]; exact xup_eq
  have ga : F8 (m + 1) = some (.inr (0, 4730, fun b9 => .int (nI ((fun _ => 0) b9)))) := by rw [← e8]; exact (xup_ne (by omega)).trans ga
  have h2 : F8 (m + 2) = some (.inr (0, 8, fun b9 => .int (nI ((fun _ => 0) b9)))) := by rw [← e8]; exact (xup_ne (by omega)).trans h2
  have h3 : F8 (m + 3) = some (.inr (0, 8, fun b9 => .int (nI ((fun _ => 0) b9)))) := by rw [← e8]; exact (xup_ne (by omega)).trans h3
  have h4 : F8 (m + 4) = some (.inr (0, 8, fun b9 => .int (nI ((fun _ => 0) b9)))) := by rw [← e8]; exact (xup_ne (by omega)).trans h4
  have hag : ∀ a9 : Nat, (a9 < m ∨ m + 12 ≤ a9) → F8 a9 = F a9 := fun a9 q0 => by rw [← e8]; exact (xup_ne (by omega)).trans (hag a9 q0)
  refine x_aload_n hC d_MessageCoderModel_init_37 rfl rfl ?_
  refine x_bipush hC d_MessageCoderModel_init_38 (v := nI 8) (by decide) ?_
  refine x_newa hC (t := 0) rfl (by decide) (by decide) (x_in (x_of (xtb_1 (List.mem_of_getElem? (i := 101) (by decide +kernel)))) (by decide +kernel)) rfl (by omega) (by decide) (by decide) (f1 := fun b9 => .int (nI ((fun _ => 0) b9))) rfl d_MessageCoderModel_init_40 ?_
  generalize e9 : xup F8 (m + 5) (.inr (0, 8, fun b9 => .int (nI ((fun _ => 0) b9)))) = F9
  have o0 : F9 (m) = some (.inl (10, [.int (nI 0), .ref (m + 1), .int (nI 0), .int (nI 0), .int (nI 0), .ref (m + 2), .ref (m + 3), .ref (m + 4), .null, .null, .int (nI 0), .null, .int (nI 0), .null, .null, .int (nI 0), .null, .int (nI 0), .int (nI 0), .int (nI 0), .int (nI 0), .int (nI 0), .null, .int (nI 0)])) := by rw [← e9]; exact (xup_ne (by omega)).trans o0
  have ga : F9 (m + 1) = some (.inr (0, 4730, fun b9 => .int (nI ((fun _ => 0) b9)))) := by rw [← e9]; exact (xup_ne (by omega)).trans ga
  have h2 : F9 (m + 2) = some (.inr (0, 8, fun b9 => .int (nI ((fun _ => 0) b9)))) := by rw [← e9]; exact (xup_ne (by omega)).trans h2
  have h3 : F9 (m + 3) = some (.inr (0, 8, fun b9 => .int (nI ((fun _ => 0) b9)))) := by rw [← e9]; exact (xup_ne (by omega)).trans h3
  have h4 : F9 (m + 4) = some (.inr (0, 8, fun b9 => .int (nI ((fun _ => 0) b9)))) := by rw [← e9]; exact (xup_ne (by omega)).trans h4
  have h5 : F9 (m + 5) = some (.inr (0, 8, fun b9 => .int (nI ((fun _ => 0) b9)))) := by rw [← e9]; exact xup_eq
  have hag : ∀ a9 : Nat, (a9 < m ∨ m + 12 ≤ a9) → F9 a9 = F a9 := fun a9 q0 => by rw [← e9]; exact (xup_ne (by omega)).trans (hag a9 q0)
  refine x_putF hC hin kk_MessageCoderModel_22 o0 (Nat.le_of_ble_eq_true rfl) rfl rfl d_MessageCoderModel_init_42 (fs1 := [.int (nI 0), .ref (m + 1), .int (nI 0), .int (nI 0), .int (nI 0), .ref (m + 2), .ref (m + 3), .ref (m + 4), .ref (m + 5), .null, .int (nI 0), .null, .int (nI 0), .null, .null, .int (nI 0), .null, .int (nI 0), .int (nI 0), .int (nI 0), .int (nI 0), .int (nI 0), .null, .int (nI 0)]) rfl ?_
  generalize e10 : xup F9 (m) (.inl (10, [.int (nI 0), .ref (m + 1), .int (nI 0), .int (nI 0), .int (nI 0), .ref (m + 2), .ref (m + 3), .ref (m + 4), .ref (m + 5), .null, .int (nI 0), .null, .int (nI 0), .null, .null, .int (nI 0), .null, .int (nI 0), .int (nI 0), .int (nI 0), .int (nI 0), .int (nI 0), .null, .int (nI 0)])) = F10
  have o0 : F10 (m) = some (.inl (10, [.int (nI 0), .ref (m + 1), .int (nI 0), .int (nI 0), .int (nI 0), .ref (m + 2), .ref (m + 3), .ref (m + 4), .ref (m + 5), .null, .int (nI 0), .null, .int (nI 0), .null, .null, .int (nI 0), .null, .int (nI 0), .int (nI 0), .int (nI 0), .int (nI 0), .int (nI 0), .null, .int (nI 0)])) := by rw [← e10]; exact xup_eq
  have ga : F10 (m + 1) = some (.inr (0, 4730, fun b9 => .int (nI ((fun _ => 0) b9)))) := by rw [← e10]; exact (xup_ne (by omega)).trans ga
  have h2 : F10 (m + 2) = some (.inr (0, 8, fun b9 => .int (nI ((fun _ => 0) b9)))) := by rw [← e10]; exact (xup_ne (by omega)).trans h2
  have h3 : F10 (m + 3) = some (.inr (0, 8, fun b9 => .int (nI ((fun _ => 0) b9)))) := by rw [← e10]; exact (xup_ne (by omega)).trans h3
  have h4 : F10 (m + 4) = some (.inr (0, 8, fun b9 => .int (nI ((fun _ => 0) b9)))) := by rw [← e10]; exact (xup_ne (by omega)).trans h4
  have h5 : F10 (m + 5) = some (.inr (0, 8, fun b9 => .int (nI ((fun _ => 0) b9)))) := by rw [← e10]; exact (xup_ne (by omega)).trans h5
  have hag : ∀ a9 : Nat, (a9 < m ∨ m + 12 ≤ a9) → F10 a9 = F a9 := fun a9 q0 => by rw [← e10]; exact (xup_ne (by omega)).trans (hag a9 q0)
  refine x_aload_n hC d_MessageCoderModel_init_45 rfl rfl ?_
  refine x_bipush hC d_MessageCoderModel_init_46 (v := nI 112) (by decide) ?_
  refine x_newa hC (t := 0) rfl (by decide) (by decide) (x_in (x_of (xtb_1 (List.mem_of_getElem? (i := 101) (by decide +kernel)))) (by decide +kernel)) rfl (by omega) (by decide) (by decide) (f1 := fun b9 => .int (nI ((fun _ => 0) b9))) rfl d_MessageCoderModel_init_48 ?_
  generalize e11 : xup F10 (m + 6) (.inr (0, 112, fun b9 => .int (nI ((fun _ => 0) b9)))) = F11
  have o0 : F11 (m) = some (.inl (10, [.int (nI 0), .ref (m + 1), .int (nI 0), .int (nI 0), .int (nI 0), .ref (m + 2), .ref (m + 3), .ref (m + 4), .ref (m + 5), .null, .int (nI 0), .null, .int (nI 0), .null, .null, .int (nI 0), .null, .int (nI 0), .int (nI 0), .int (nI 0), .int (nI 0), .int (nI 0), .null, .int (nI 0)])) := by rw [← e11]; exact (xup_ne (by omega)).trans o0
  have ga : F11 (m + 1) = some (.inr (0, 4730, fun b9 => .int (nI ((fun _ => 0) b9)))) := by rw [← e11]; exact (xup_ne (by omega)).trans ga
  have h2 : F11 (m + 2) = some (.inr (0, 8, fun b9 => .int (nI ((fun _ => 0) b9)))) := by rw [← e11]; exact (xup_ne (by omega)).trans h2
  have h3 : F11 (m + 3) = some (.inr (0, 8, fun b9 => .int (nI ((fun _ => 0) b9)))) := by rw [← e11]; exact (xup_ne (by omega)).trans h3
  have h4 : F11 (m + 4) = some (.inr (0, 8, fun b9 => .int (nI ((fun _ => 0) b9)))) := by rw [← e11]; exact (xup_ne (by omega)).trans h4
  have h5 : F11 (m + 5) = some (.inr (0, 8, fun b9 => .int (nI ((fun _ => 0) b9)))) := by rw [← e11]; exact (xup_ne (by omega)).trans h5
  have h6 : F11 (m + 6) = some (.inr (0, 112, fun b9 => .int (nI ((fun _ => 0) b9)))) := by rw [← e11]; exact xup_eq
  have hag : ∀ a9 : Nat, (a9 < m ∨ m + 12 ≤ a9) → F11 a9 = F a9 := fun a9 q0 => by rw [← e11]; exact (xup_ne (by omega)).trans (hag a9 q0)
  refine x_putF hC hin kk_MessageCoderModel_25 o0 (Nat.le_of_ble_eq_true rfl) rfl rfl d_MessageCoderModel_init_50 (fs1 := [.int (nI 0), .ref (m + 1), .int (nI 0), .int (nI 0), .int (nI 0), .ref (m + 2), .ref (m + 3), .ref (m + 4), .ref (m + 5), .ref (m + 6), .int (nI 0), .null, .int (nI 0), .null, .null, .int (nI 0), .null, .int (nI 0), .int (nI 0), .int (nI 0), .int (nI 0), .int (nI 0), .null, .int (nI 0)]) rfl ?_
  generalize e12 : xup F11 (m) (.inl (10, [.int (nI 0), .ref (m + 1), .int (nI 0), .int (nI 0), .int (nI 0), .ref (m + 2), .ref (m + 3), .ref (m + 4), .ref (m + 5), .ref (m + 6), .int (nI 0), .null, .int (nI 0), .null, .null, .int (nI 0), .null, .int (nI 0), .int (nI 0), .int (nI 0), .int (nI 0), .int (nI 0), .null, .int (nI 0)])) = F12
  have o0 : F12 (m) = some (.inl (10, [.int (nI 0), .ref (m + 1), .int (nI 0), .int (nI 0), .int (nI 0), .ref (m + 2), .ref (m + 3), .ref (m + 4), .ref (m + 5), .ref (m + 6), .int (nI 0), .null, .int (nI 0), .null, .null, .int (nI 0), .null, .int (nI 0), .int (nI 0), .int (nI 0), .int (nI 0), .int (nI 0), .null, .int (nI 0)])) := by rw [← e12]; exact xup_eq
  have ga : F12 (m + 1) = some (.inr (0, 4730, fun b9 => .int (nI ((fun _ => 0) b9)))) := by rw [← e12]; exact (xup_ne (by omega)).trans ga
  have h2 : F12 (m + 2) = some (.inr (0, 8, fun b9 => .int (nI ((fun _ => 0) b9)))) := by rw [← e12]; exact (xup_ne (by omega)).trans h2
  have h3 : F12 (m + 3) = some (.inr (0, 8, fun b9 => .int (nI ((fun _ => 0) b9)))) := by rw [← e12]; exact (xup_ne (by omega)).trans h3
  have h4 : F12 (m + 4) = some (.inr (0, 8, fun b9 => .int (nI ((fun _ => 0) b9)))) := by rw [← e12]; exact (xup_ne (by omega)).trans h4
  have h5 : F12 (m + 5) = some (.inr (0, 8, fun b9 => .int (nI ((fun _ => 0) b9)))) := by rw [← e12]; exact (xup_ne (by omega)).trans h5
  have h6 : F12 (m + 6) = some (.inr (0, 112, fun b9 => .int (nI ((fun _ => 0) b9)))) := by rw [← e12]; exact (xup_ne (by omega)).trans h6
  have hag : ∀ a9 : Nat, (a9 < m ∨ m + 12 ≤ a9) → F12 a9 = F a9 := fun a9 q0 => by rw [← e12]; exact (xup_ne (by omega)).trans (hag a9 q0)
  refine x_aload_n hC d_MessageCoderModel_init_53 rfl rfl ?_
  refine x_bipush hC d_MessageCoderModel_init_54 (v := nI 16) (by decide) ?_
  refine x_newa hC (t := 0) rfl (by decide) (by decide) (x_in (x_of (xtb_1 (List.mem_of_getElem? (i := 101) (by decide +kernel)))) (by decide +kernel)) rfl (by omega) (by decide) (by decide) (f1 := fun b9 => .int (nI ((fun _ => 0) b9))) rfl d_MessageCoderModel_init_56 ?_
  generalize e13 : xup F12 (m + 7) (.inr (0, 16, fun b9 => .int (nI ((fun _ => 0) b9)))) = F13
  have o0 : F13 (m) = some (.inl (10, [.int (nI 0), .ref (m + 1), .int (nI 0), .int (nI 0), .int (nI 0), .ref (m + 2), .ref (m + 3), .ref (m + 4), .ref (m + 5), .ref (m + 6), .int (nI 0), .null, .int (nI 0), .null, .null, .int (nI 0), .null, .int (nI 0), .int (nI 0), .int (nI 0), .int (nI 0), .int (nI 0), .null, .int (nI 0)])) := by rw [← e13]; exact (xup_ne (by omega)).trans o0
  have ga : F13 (m + 1) = some (.inr (0, 4730, fun b9 => .int (nI ((fun _ => 0) b9)))) := by rw [← e13]; exact (xup_ne (by omega)).trans ga
  have h2 : F13 (m + 2) = some (.inr (0, 8, fun b9 => .int (nI ((fun _ => 0) b9)))) := by rw [← e13]; exact (xup_ne (by omega)).trans h2
  have h3 : F13 (m + 3) = some (.inr (0, 8, fun b9 => .int (nI ((fun _ => 0) b9)))) := by rw [← e13]; exact (xup_ne (by omega)).trans h3
  have h4 : F13 (m + 4) = some (.inr (0, 8, fun b9 => .int (nI ((fun _ => 0) b9)))) := by rw [← e13]; exact (xup_ne (by omega)).trans h4
  have h5 : F13 (m + 5) = some (.inr (0, 8, fun b9 => .int (nI ((fun _ => 0) b9)))) := by rw [← e13]; exact (xup_ne (by omega)).trans h5
  have h6 : F13 (m + 6) = some (.inr (0, 112, fun b9 => .int (nI ((fun _ => 0) b9)))) := by rw [← e13]; exact (xup_ne (by omega)).trans h6
  have h7 : F13 (m + 7) = some (.inr (0, 16, fun b9 => .int (nI ((fun _ => 0) b9)))) := by rw [← e13]; exact xup_eq
  have hag : ∀ a9 : Nat, (a9 < m ∨ m + 12 ≤ a9) → F13 a9 = F a9 := fun a9 q0 => by rw [← e13]; exact (xup_ne (by omega)).trans (hag a9 q0)
  refine x_putF hC hin kk_MessageCoderModel_28 o0 (Nat.le_of_ble_eq_true rfl) rfl rfl d_MessageCoderModel_init_58 (fs1 := [.int (nI 0), .ref (m + 1), .int (nI 0), .int (nI 0), .int (nI 0), .ref (m + 2), .ref (m + 3), .ref (m + 4), .ref (m + 5), .ref (m + 6), .int (nI 0), .ref (m + 7), .int (nI 0), .null, .null, .int (nI 0), .null, .int (nI 0), .int (nI 0), .int (nI 0), .int (nI 0), .int (nI 0), .null, .int (nI 0)]) rfl ?_
  generalize e14 : xup F13 (m) (.inl (10, [.int (nI 0), .ref (m + 1), .int (nI 0), .int (nI 0), .int (nI 0), .ref (m + 2), .ref (m + 3), .ref (m + 4), .ref (m + 5), .ref (m + 6), .int (nI 0), .ref (m + 7), .int (nI 0), .null, .null, .int (nI 0), .null, .int (nI 0), .int (nI 0), .int (nI 0), .int (nI 0), .int (nI 0), .null, .int (nI 0)])) = F14
  have o0 : F14 (m) = some (.inl (10, [.int (nI 0), .ref (m + 1), .int (nI 0), .int (nI 0), .int (nI 0), .ref (m + 2), .ref (m + 3), .ref (m + 4), .ref (m + 5), .ref (m + 6), .int (nI 0), .ref (m + 7), .int (nI 0), .null, .null, .int (nI 0), .null, .int (nI 0), .int (nI 0), .int (nI 0), .int (nI 0), .int (nI 0), .null, .int (nI 0)])) := by rw [← e14]; exact xup_eq
  have ga : F14 (m + 1) = some (.inr (0, 4730, fun b9 => .int (nI ((fun _ => 0) b9)))) := by rw [← e14]; exact (xup_ne (by omega)).trans ga
  have h2 : F14 (m + 2) = some (.inr (0, 8, fun b9 => .int (nI ((fun _ => 0) b9)))) := by rw [← e14]; exact (xup_ne (by omega)).trans h2
  have h3 : F14 (m + 3) = some (.inr (0, 8, fun b9 => .int (nI ((fun _ => 0) b9)))) := by rw [← e14]; exact (xup_ne (by omega)).trans h3
  have h4 : F14 (m + 4) = some (.inr (0, 8, fun b9 => .int (nI ((fun _ => 0) b9)))) := by rw [← e14]; exact (xup_ne (by omega)).trans h4
  have h5 : F14 (m + 5) = some (.inr (0, 8, fun b9 => .int (nI ((fun _ => 0) b9)))) := by rw [← e14]; exact (xup_ne (by omega)).trans h5
  have h6 : F14 (m + 6) = some (.inr (0, 112, fun b9 => .int (nI ((fun _ => 0) b9)))) := by rw [← e14]; exact (xup_ne (by omega)).trans h6
  have h7 : F14 (m + 7) = some (.inr (0, 16, fun b9 => .int (nI ((fun _ => 0) b9)))) := by rw [← e14]; exact (xup_ne (by omega)).trans h7
  have hag : ∀ a9 : Nat, (a9 < m ∨ m + 12 ≤ a9) → F14 a9 = F a9 := fun a9 q0 => by rw [← e14]; exact (xup_ne (by omega)).trans (hag a9 q0)
  refine x_aload_n hC d_MessageCoderModel_init_61 rfl rfl ?_
  refine x_bipush hC d_MessageCoderModel_init_62 (v := nI 17) (by decide) ?_
  refine x_newa hC (t := 0) rfl (by decide) (by decide) (x_in (x_of (xtb_1 (List.mem_of_getElem? (i := 101) (by decide +kernel)))) (by decide +kernel)) rfl (by omega) (by decide) (by decide) (f1 := fun b9 => .int (nI ((fun _ => 0) b9))) rfl d_MessageCoderModel_init_64 ?_
  generalize e15 : xup F14 (m + 8) (.inr (0, 17, fun b9 => .int (nI ((fun _ => 0) b9)))) = F15
  have o0 : F15 (m) = some (.inl (10, [.int (nI 0), .ref (m + 1), .int (nI 0), .int (nI 0), .int (nI 0), .ref (m + 2), .ref (m + 3), .ref (m + 4), .ref (m + 5), .ref (m + 6), .int (nI 0), .ref (m + 7), .int (nI 0), .null, .null, .int (nI 0), .null, .int (nI 0), .int (nI 0), .int (nI 0), .int (nI 0), .int (nI 0), .null, .int (nI 0)])) := by rw [← e15]; exact (xup_ne (by omega)).trans o0
  have ga : F15 (m + 1) = some (.inr (0, 4730, fun b9 => .int (nI ((fun _ => 0) b9)))) := by rw [← e15]; exact (xup_ne (by omega)).trans ga
  have h2 : F15 (m + 2) = some (.inr (0, 8, fun b9 => .int (nI ((fun _ => 0) b9)))) := by rw [← e15]; exact (xup_ne (by omega)).trans h2
  have h3 : F15 (m + 3) = some (.inr (0, 8, fun b9 => .int (nI ((fun _ => 0) b9)))) := by rw [← e15]; exact (xup_ne (by omega)).trans h3
  have h4 : F15 (m + 4) = some (.inr (0, 8, fun b9 => .int (nI ((fun _ => 0) b9)))) := by rw [← e15]; exact (xup_ne (by omega)).trans h4
  have h5 : F15 (m + 5) = some (.inr (0, 8, fun b9 => .int (nI ((fun _ => 0) b9)))) := by rw [← e15]; exact (xup_ne (by omega)).trans h5
  have h6 : F15 (m + 6) = some (.inr (0, 112, fun b9 => .int (nI ((fun _ => 0) b9)))) := by rw [← e15]; exact (xup_ne (by omega)).trans h6
  have h7 : F15 (m + 7) = some (.inr (0, 16, fun b9 => .int (nI ((fun _ => 0) b9)))) := by rw [← e15]; exact (xup_ne (by omega)).trans h7
  have h8 : F15 (m + 8) = some (.inr (0, 17, fun b9 => .int (nI ((fun _ => 0) b9)))) := by rw [← e15]; exact xup_eq
  have hag : ∀ a9 : Nat, (a9 < m ∨ m + 12 ≤ a9) → F15 a9 = F a9 := fun a9 q0 => by rw [← e15]; exact (xup_ne (by omega)).trans (hag a9 q0)
  refine x_putF hC hin kk_MessageCoderModel_31 o0 (Nat.le_of_ble_eq_true rfl) rfl rfl d_MessageCoderModel_init_66 (fs1 := [.int (nI 0), .ref (m + 1), .int (nI 0), .int (nI 0), .int (nI 0), .ref (m + 2), .ref (m + 3), .ref (m + 4), .ref (m + 5), .ref (m + 6), .int (nI 0), .ref (m + 7), .int (nI 0), .ref (m + 8), .null, .int (nI 0), .null, .int (nI 0), .int (nI 0), .int (nI 0), .int (nI 0), .int (nI 0), .null, .int (nI 0)]) rfl ?_
  generalize e16 : xup F15 (m) (.inl (10, [.int (nI 0), .ref (m + 1), .int (nI 0), .int (nI 0), .int (nI 0), .ref (m + 2), .ref (m + 3), .ref (m + 4), .ref (m + 5), .ref (m + 6), .int (nI 0), .ref (m + 7), .int (nI 0), .ref (m + 8), .null, .int (nI 0), .null, .int (nI 0), .int (nI 0), .int (nI 0), .int (nI 0), .int (nI 0), .null, .int (nI 0)])) = F16
  have o0 : F16 (m) = some (.inl (10, [.int (nI 0), .ref (m + 1), .int (nI 0), .int (nI 0), .int (nI 0), .ref (m + 2), .ref (m + 3), .ref (m + 4), .ref (m + 5), .ref (m + 6), .int (nI 0), .ref (m + 7), .int (nI 0), .ref (m + 8), .null, .int (nI 0), .null, .int (nI 0), .int (nI 0), .int (nI 0), .int (nI 0), .int (nI 0), .null, .int (nI 0)])) := by rw [← e16]; exact xup_eq
  have ga : F16 (m + 1) = some (.inr (0, 4730, fun b9 => .int (nI ((fun _ => 0) b9)))) := by rw [← e16]; exact (xup_ne (by omega)).trans ga
  have h2 : F16 (m + 2) = some (.inr (0, 8, fun b9 => .int (nI ((fun _ => 0) b9)))) := by rw [← e16]; exact (xup_ne (by omega)).trans h2
  have h3 : F16 (m + 3) = some (.inr (0, 8, fun b9 => .int (nI ((fun _ => 0) b9)))) := by rw [← e16]; exact (xup_ne (by omega)).trans h3
  have h4 : F16 (m + 4) = some (.inr (0, 8, fun b9 => .int (nI ((fun _ => 0) b9)))) := by rw [← e16]; exact (xup_ne (by omega)).trans h4
  have h5 : F16 (m + 5) = some (.inr (0, 8, fun b9 => .int (nI ((fun _ => 0) b9)))) := by rw [← e16]; exact (xup_ne (by omega)).trans h5
  have h6 : F16 (m + 6) = some (.inr (0, 112, fun b9 => .int (nI ((fun _ => 0) b9)))) := by rw [← e16]; exact (xup_ne (by omega)).trans h6
  have h7 : F16 (m + 7) = some (.inr (0, 16, fun b9 => .int (nI ((fun _ => 0) b9)))) := by rw [← e16]; exact (xup_ne (by omega)).trans h7
  have h8 : F16 (m + 8) = some (.inr (0, 17, fun b9 => .int (nI ((fun _ => 0) b9)))) := by rw [← e16]; exact (xup_ne (by omega)).trans h8
  have hag : ∀ a9 : Nat, (a9 < m ∨ m + 12 ≤ a9) → F16 a9 = F a9 := fun a9 q0 => by rw [← e16]; exact (xup_ne (by omega)).trans (hag a9 q0)
  refine x_aload_n hC d_MessageCoderModel_init_69 rfl rfl ?_
  refine x_bipush hC d_MessageCoderModel_init_70 (v := nI 40) (by decide) ?_
  refine x_newa hC (t := 1) rfl (by decide) (by decide) (x_in (x_of (xtb_1 (List.mem_of_getElem? (i := 124) (by decide +kernel)))) (by decide +kernel)) rfl (by omega) (by decide) (by decide) (f1 := fun b9 => .int (nI ((fun _ => 0) b9))) rfl d_MessageCoderModel_init_72 ?_
  generalize e17 : xup F16 (m + 9) (.inr (1, 40, fun b9 => .int (nI ((fun _ => 0) b9)))) = F17
  have o0 : F17 (m) = some (.inl (10, [.int (nI 0), .ref (m + 1), .int (nI 0), .int (nI 0), .int (nI 0), .ref (m + 2), .ref (m + 3), .ref (m + 4), .ref (m + 5), .ref (m + 6), .int (nI 0), .ref (m + 7), .int (nI 0), .ref (m + 8), .null, .int (nI 0), .null, .int (nI 0), .int (nI 0), .int (nI 0), .int (nI 0), .int (nI 0), .null, .int (nI 0)])) := by rw [← e17]; exact (xup_ne (by omega)).trans o0
  have ga : F17 (m + 1) = some (.inr (0, 4730, fun b9 => .int (nI ((fun _ => 0) b9)))) := by rw [← e17]; exact (xup_ne (by omega)).trans ga
  have h2 : F17 (m + 2) = some (.inr (0, 8, fun b9 => .int (nI ((fun _ => 0) b9)))) := by rw [← e17]; exact (xup_ne (by omega)).trans h2
  have h3 : F17 (m + 3) = some (.inr (0, 8, fun b9 => .int (nI ((fun _ => 0) b9)))) := by rw [← e17]; exact (xup_ne (by omega)).trans h3
  have h4 : F17 (m + 4) = some (.inr (0, 8, fun b9 => .int (nI ((fun _ => 0) b9)))) := by rw [← e17]; exact (xup_ne (by omega)).trans h4
  have h5 : F17 (m + 5) = some (.inr (0, 8, fun b9 => .int (nI ((fun _ => 0) b9)))) := by rw [← e17]; exact (xup_ne (by omega)).trans h5
  have h6 : F17 (m + 6) = some (.inr (0, 112, fun b9 => .int (nI ((fun _ => 0) b9)))) := by rw [← e17]; exact (xup_ne (by omega)).trans h6
  have h7 : F17 (m + 7) = some (.inr (0, 16, fun b9 => .int (nI ((fun _ => 0) b9)))) := by rw [← e17]; exact (xup_ne (by omega)).trans h7
  have h8 : F17 (m + 8) = some (.inr (0, 17, fun b9 => .int (nI ((fun _ => 0) b9)))) := by rw [← e17]; exact (xup_ne (by omega)).trans h8
  have h9 : F17 (m + 9) = some (.inr (1, 40, fun b9 => .int (nI ((fun _ => 0) b9)))) := by rw [← e17]; exact xup_eq
  have hag : ∀ a9 : Nat, (a9 < m ∨ m + 12 ≤ a9) → F17 a9 = F a9 := fun a9 q0 => by rw [← e17]; exact (xup_ne (by omega)).trans (hag a9 q0)
  refine x_putF hC hin kk_MessageCoderModel_34 o0 (Nat.le_of_ble_eq_true rfl) rfl rfl d_MessageCoderModel_init_74 (fs1 := [.int (nI 0), .ref (m + 1), .int (nI 0), .int (nI 0), .int (nI 0), .ref (m + 2), .ref (m + 3), .ref (m + 4), .ref (m + 5), .ref (m + 6), .int (nI 0), .ref (m + 7), .int (nI 0), .ref (m + 8), .ref (m + 9), .int (nI 0), .null, .int (nI 0), .int (nI 0), .int (nI 0), .int (nI 0), .int (nI 0), .null, .int (nI 0)]) rfl ?_
  generalize e18 : xup F17 (m) (.inl (10, [.int (nI 0), .ref (m + 1), .int (nI 0), .int (nI 0), .int (nI 0), .ref (m + 2), .ref (m + 3), .ref (m + 4), .ref (m + 5), .ref (m + 6), .int (nI 0), .ref (m + 7), .int (nI 0), .ref (m + 8), .ref (m + 9), .int (nI 0), .null, .int (nI 0), .int (nI 0), .int (nI 0), .int (nI 0), .int (nI 0), .null, .int (nI 0)])) = F18
  have o0 : F18 (m) = some (.inl (10, [.int (nI 0), .ref (m + 1), .int (nI 0), .int (nI 0), .int (nI 0), .ref (m + 2), .ref (m + 3), .ref (m + 4), .ref (m + 5), .ref (m + 6), .int (nI 0), .ref (m + 7), .int (nI 0), .ref (m + 8), .ref (m + 9), .int (nI 0), .null, .int (nI 0), .int (nI 0), .int (nI 0), .int (nI 0), .int (nI 0), .null, .int (nI 0)])) := by rw [← e18]; exact xup_eq
  have ga : F18 (m + 1) = some (.inr (0, 4730, fun b9 => .int (nI ((fun _ => 0) b9)))) := by rw [← e18]; exact (xup_ne (by omega)).trans ga
  have h2 : F18 (m + 2) = some (.inr (0, 8, fun b9 => .int (nI ((fun _ => 0) b9)))) := by rw [← e18]; exact (xup_ne (by omega)).trans h2
  have h3 : F18 (m + 3) = some (.inr (0, 8, fun b9 => .int (nI ((fun _ => 0) b9)))) := by rw [← e18]; exact (xup_ne (by omega)).trans h3
  have h4 : F18 (m + 4) = some (.inr (0, 8, fun b9 => .int (nI ((fun _ => 0) b9)))) := by rw [← e18]; exact (xup_ne (by omega)).trans h4
  have h5 : F18 (m + 5) = some (.inr (0, 8, fun b9 => .int (nI ((fun _ => 0) b9)))) := by rw [← e18]; exact (xup_ne (by omega)).trans h5
  have h6 : F18 (m + 6) = some (.inr (0, 112, fun b9 => .int (nI ((fun _ => 0) b9)))) := by rw [← e18]; exact (xup_ne (by omega)).trans h6
  have h7 : F18 (m + 7) = some (.inr (0, 16, fun b9 => .int (nI ((fun _ => 0) b9)))) := by rw [← e18]; exact (xup_ne (by omega)).trans h7
  have h8 : F18 (m + 8) = some (.inr (0, 17, fun b9 => .int (nI ((fun _ => 0) b9)))) := by rw [← e18]; exact (xup_ne (by omega)).trans h8
  have h9 : F18 (m + 9) = some (.inr (1, 40, fun b9 => .int (nI ((fun _ => 0) b9)))) := by rw [← e18]; exact (xup_ne (by omega)).trans h9
  have hag : ∀ a9 : Nat, (a9 < m ∨ m + 12 ≤ a9) → F18 a9 = F a9 := fun a9 q0 => by rw [← e18]; exact (xup_ne (by omega)).trans (hag a9 q0)
  refine x_aload_n hC d_MessageCoderModel_init_77 rfl rfl ?_
  refine x_bipush hC d_MessageCoderModel_init_78 (v := nI 60) (by decide) ?_
  refine x_newa hC (t := 1) rfl (by decide) (by decide) (x_in (x_of (xtb_1 (List.mem_of_getElem? (i := 124) (by decide +kernel)))) (by decide +kernel)) rfl (by omega) (by decide) (by decide) (f1 := fun b9 => .int (nI ((fun _ => 0) b9))) rfl d_MessageCoderModel_init_80 ?_
  generalize e19 : xup F18 (m + 10) (.inr (1, 60, fun b9 => .int (nI ((fun _ => 0) b9)))) = F19
  have o0 : F19 (m) = some (.inl (10, [.int (nI 0), .ref (m + 1), .int (nI 0), .int (nI 0), .int (nI 0), .ref (m + 2), .ref (m + 3), .ref (m + 4), .ref (m + 5), .ref (m + 6), .int (nI 0), .ref (m + 7), .int (nI 0), .ref (m + 8), .ref (m + 9), .int (nI 0), .null, .int (nI 0), .int (nI 0), .int (nI 0), .int (nI 0), .int (nI 0), .null, .int (nI 0)])) := by rw [← e19]; exact (xup_ne (by omega)).trans o0
  have ga : F19 (m + 1) = some (.inr (0, 4730, fun b9 => .int (nI ((fun _ => 0) b9)))) := by rw [← e19]; exact (xup_ne (by omega)).trans ga
  have h2 : F19 (m + 2) = some (.inr (0, 8, fun b9 => .int (nI ((fun _ => 0) b9)))) := by rw [← e19]; exact (xup_ne (by omega)).trans h2
  have h3 : F19 (m + 3) = some (.inr (0, 8, fun b9 => .int (nI ((fun _ => 0) b9)))) := by rw [← e19]; exact (xup_ne (by omega)).trans h3
  have h4 : F19 (m + 4) = some (.inr (0, 8, fun b9 => .int (nI ((fun _ => 0) b9)))) := by rw [← e19]; exact (xup_ne (by omega)).trans h4
  have h5 : F19 (m + 5) = some (.inr (0, 8, fun b9 => .int (nI ((fun _ => 0) b9)))) := by rw [← e19]; exact (xup_ne (by omega)).trans h5
  have h6 : F19 (m + 6) = some (.inr (0, 112, fun b9 => .int (nI ((fun _ => 0) b9)))) := by rw [← e19]; exact (xup_ne (by omega)).trans h6
  have h7 : F19 (m + 7) = some (.inr (0, 16, fun b9 => .int (nI ((fun _ => 0) b9)))) := by rw [← e19]; exact (xup_ne (by omega)).trans h7
  have h8 : F19 (m + 8) = some (.inr (0, 17, fun b9 => .int (nI ((fun _ => 0) b9)))) := by rw [← e19]; exact (xup_ne (by omega)).trans h8
  have h9 : F19 (m + 9) = some (.inr (1, 40, fun b9 => .int (nI ((fun _ => 0) b9)))) := by rw [← e19]; exact (xup_ne (by omega)).trans h9
  have hi : F19 (m + 10) = some (.inr (1, 60, fun b9 => .int (nI ((fun _ => 0) b9)))) := by rw [← e19]; exact xup_eq
  have hag : ∀ a9 : Nat, (a9 < m ∨ m + 12 ≤ a9) → F19 a9 = F a9 := fun a9 q0 => by rw [← e19]; exact (xup_ne (by omega)).trans (hag a9 q0)
  refine x_putF hC hin kk_MessageCoderModel_38 o0 (Nat.le_of_ble_eq_true rfl) rfl rfl d_MessageCoderModel_init_82 (fs1 := [.int (nI 0), .ref (m + 1), .int (nI 0), .int (nI 0), .int (nI 0), .ref (m + 2), .ref (m + 3), .ref (m + 4), .ref (m + 5), .ref (m + 6), .int (nI 0), .ref (m + 7), .int (nI 0), .ref (m + 8), .ref (m + 9), .int (nI 0), .ref (m + 10), .int (nI 0), .int (nI 0), .int (nI 0), .int (nI 0), .int (nI 0), .null, .int (nI 0)]) rfl ?_
  generalize e20 : xup F19 (m) (.inl (10, [.int (nI 0), .ref (m + 1), .int (nI 0), .int (nI 0), .int (nI 0), .ref (m + 2), .ref (m + 3), .ref (m + 4), .ref (m + 5), .ref (m + 6), .int (nI 0), .ref (m + 7), .int (nI 0), .ref (m + 8), .ref (m + 9), .int (nI 0), .ref (m + 10), .int (nI 0), .int (nI 0), .int (nI 0), .int (nI 0), .int (nI 0), .null, .int (nI 0)])) = F20
  have o0 : F20 (m) = some (.inl (10, [.int (nI 0), .ref (m + 1), .int (nI 0), .int (nI 0), .int (nI 0), .ref (m + 2), .ref (m + 3), .ref (m + 4), .ref (m + 5), .ref (m + 6), .int (nI 0), .ref (m + 7), .int (nI 0), .ref (m + 8), .ref (m + 9), .int (nI 0), .ref (m + 10), .int (nI 0), .int (nI 0), .int (nI 0), .int (nI 0), .int (nI 0), .null, .int (nI 0)])) := by rw [← e20]; exact xup_eq
  have ga : F20 (m + 1) = some (.inr (0, 4730, fun b9 => .int (nI ((fun _ => 0) b9)))) := by rw [← e20]; exact (xup_ne (by omega)).trans ga
  have h2 : F20 (m + 2) = some (.inr (0, 8, fun b9 => .int (nI ((fun _ => 0) b9)))) := by rw [← e20]; exact (xup_ne (by omega)).trans h2
  have h3 : F20 (m + 3) = some (.inr (0, 8, fun b9 => .int (nI ((fun _ => 0) b9)))) := by rw [← e20]; exact (xup_ne (by omega)).trans h3
  have h4 : F20 (m + 4) = some (.inr (0, 8, fun b9 => .int (nI ((fun _ => 0) b9)))) := by rw [← e20]; exact (xup_ne (by omega)).trans h4
  have h5 : F20 (m + 5) = some (.inr (0, 8, fun b9 => .int (nI ((fun _ => 0) b9)))) := by rw [← e20]; exact (xup_ne (by omega)).trans h5
  have h6 : F20 (m + 6) = some (.inr (0, 112, fun b9 => .int (nI ((fun _ => 0) b9)))) := by rw [← e20]; exact (xup_ne (by omega)).trans h6
  have h7 : F20 (m + 7) = some (.inr (0, 16, fun b9 => .int (nI ((fun _ => 0) b9)))) := by rw [← e20]; exact (xup_ne (by omega)).trans h7
  have h8 : F20 (m + 8) = some (.inr (0, 17, fun b9 => .int (nI ((fun _ => 0) b9)))) := by rw [← e20]; exact (xup_ne (by omega)).trans h8
  have h9 : F20 (m + 9) = some (.inr (1, 40, fun b9 => .int (nI ((fun _ => 0) b9)))) := by rw [← e20]; exact (xup_ne (by omega)).trans h9
  have hi : F20 (m + 10) = some (.inr (1, 60, fun b9 => .int (nI ((fun _ => 0) b9)))) := by rw [← e20]; exact (xup_ne (by omega)).trans hi
  have hag : ∀ a9 : Nat, (a9 < m ∨ m + 12 ≤ a9) → F20 a9 = F a9 := fun a9 q0 => by rw [← e20]; exact (xup_ne (by omega)).trans (hag a9 q0)
  refine x_aload_n hC d_MessageCoderModel_init_85 rfl rfl ?_
  refine x_iconst hC d_MessageCoderModel_init_86 (v := -1) (by decide) ?_
  refine x_putf hC kf_MessageCoderModel_41 o0 (Nat.le_of_ble_eq_true rfl) rfl rfl d_MessageCoderModel_init_87 (fs1 := [.int (nI 0), .ref (m + 1), .int (nI 0), .int (nI 0), .int (nI 0), .ref (m + 2), .ref (m + 3), .ref (m + 4), .ref (m + 5), .ref (m + 6), .int (nI 0), .ref (m + 7), .int (nI 0), .ref (m + 8), .ref (m + 9), .int (nI 0), .ref (m + 10), .int (nI 0), .int (nI 0), .int (nI 0), .int (-1), .int (nI 0), .null, .int (nI 0)]) rfl ?_
  generalize e21 : xup F20 (m) (.inl (10, [.int (nI 0), .ref (m + 1), .int (nI 0), .int (nI 0), .int (nI 0), .ref (m + 2), .ref (m + 3), .ref (m + 4), .ref (m + 5), .ref (m + 6), .int (nI 0), .ref (m + 7), .int (nI 0), .ref (m + 8), .ref (m + 9), .int (nI 0), .ref (m + 10), .int (nI 0), .int (nI 0), .int (nI 0), .int (-1), .int (nI 0), .null, .int (nI 0)])) = F21
  have o0 : F21 (m) = some (.inl (10, [.int (nI 0), .ref (m + 1), .int (nI 0), .int (nI 0), .int (nI 0), .ref (m + 2), .ref (m + 3), .ref (m + 4), .ref (m + 5), .ref (m + 6), .int (nI 0), .ref (m + 7), .int (nI 0), .ref (m + 8), .ref (m + 9), .int (nI 0), .ref (m + 10), .int (nI 0), .int (nI 0), .int (nI 0), .int (-1), .int (nI 0), .null, .int (nI 0)])) := by rw [← e21]; exact xup_eq
  have ga : F21 (m + 1) = some (.inr (0, 4730, fun b9 => .int (nI ((fun _ => 0) b9)))) := by rw [← e21]; exact (xup_ne (by omega)).trans ga
  have h2 : F21 (m + 2) = some (.inr (0, 8, fun b9 => .int (nI ((fun _ => 0) b9)))) := by rw [← e21]; exact (xup_ne (by omega)).trans h2
  have h3 : F21 (m + 3) = some (.inr (0, 8, fun b9 => .int (nI ((fun _ => 0) b9)))) := by rw [← e21]; exact (xup_ne (by omega)).trans h3
  have h4 : F21 (m + 4) = some (.inr (0, 8, fun b9 => .int (nI ((fun _ => 0) b9)))) := by rw [← e21]; exact (xup_ne (by omega)).trans h4
  have h5 : F21 (m + 5) = some (.inr (0, 8, fun b9 => .int (nI ((fun _ => 0) b9)))) := by rw [← e21]; exact (xup_ne (by omega)).trans h5
  have h6 : F21 (m + 6) = some (.inr (0, 112, fun b9 => .int (nI ((fun _ => 0) b9)))) := by rw [← e21]; exact (xup_ne (by omega)).trans h6
  have h7 : F21 (m + 7) = some (.inr (0, 16, fun b9 => .int (nI ((fun _ => 0) b9)))) := by rw [← e21]; exact (xup_ne (by omega)).trans h7
  have h8 : F21 (m + 8) = some (.inr (0, 17, fun b9 => .int (nI ((fun _ => 0) b9)))) := by rw [← e21]; exact (xup_ne (by omega)).trans h8
  have h9 : F21 (m + 9) = some (.inr (1, 40, fun b9 => .int (nI ((fun _ => 0) b9)))) := by rw [← e21]; exact (xup_ne (by omega)).trans h9
  have hi : F21 (m + 10) = some (.inr (1, 60, fun b9 => .int (nI ((fun _ => 0) b9)))) := by rw [← e21]; exact (xup_ne (by omega)).trans hi
  have hag : ∀ a9 : Nat, (a9 < m ∨ m + 12 ≤ a9) → F21 a9 = F a9 := fun a9 q0 => by rw [← e21]; exact (xup_ne (by omega)).trans (hag a9 q0)
  refine x_aload_n hC d_MessageCoderModel_init_90 rfl rfl ?_
  refine x_iconst hC d_MessageCoderModel_init_91 (v := -1) (by decide) ?_
  refine x_putf hC kf_MessageCoderModel_45 o0 (Nat.le_of_ble_eq_true rfl) rfl rfl d_MessageCoderModel_init_92 (fs1 := [.int (nI 0), .ref (m + 1), .int (nI 0), .int (nI 0), .int (nI 0), .ref (m + 2), .ref (m + 3), .ref (m + 4), .ref (m + 5), .ref (m + 6), .int (nI 0), .ref (m + 7), .int (nI 0), .ref (m + 8), .ref (m + 9), .int (nI 0), .ref (m + 10), .int (nI 0), .int (nI 0), .int (nI 0), .int (-1), .int (-1), .null, .int (nI 0)]) rfl ?_
  generalize e22 : xup F21 (m) (.inl (10, [.int (nI 0), .ref (m + 1), .int (nI 0), .int (nI 0), .int (nI 0), .ref (m + 2), .ref (m + 3), .ref (m + 4), .ref (m + 5), .ref (m + 6), .int (nI 0), .ref (m + 7), .int (nI 0), .ref (m + 8), .ref (m + 9), .int (nI 0), .ref (m + 10), .int (nI 0), .int (nI 0), .int (nI 0), .int (-1), .int (-1), .null, .int (nI 0)])) = F22
  have o0 : F22 (m) = some (.inl (10, [.int (nI 0), .ref (m + 1), .int (nI 0), .int (nI 0), .int (nI 0), .ref (m + 2), .ref (m + 3), .ref (m + 4), .ref (m + 5), .ref (m + 6), .int (nI 0), .ref (m + 7), .int (nI 0), .ref (m + 8), .ref (m + 9), .int (nI 0), .ref (m + 10), .int (nI 0), .int (nI 0), .int (nI 0), .int (-1), .int (-1), .null, .int (nI 0)])) := by rw [← e22]; exact xup_eq
  have ga : F22 (m + 1) = some (.inr (0, 4730, fun b9 => .int (nI ((fun _ => 0) b9)))) := by rw [← e22]; exact (xup_ne (by omega)).trans ga
  have h2 : F22 (m + 2) = some (.inr (0, 8, fun b9 => .int (nI ((fun _ => 0) b9)))) := by rw [← e22]; exact (xup_ne (by omega)).trans h2
  have h3 : F22 (m + 3) = some (.inr (0, 8, fun b9 => .int (nI ((fun _ => 0) b9)))) := by rw [← e22]; exact (xup_ne (by omega)).trans h3
  have h4 : F22 (m + 4) = some (.inr (0, 8, fun b9 => .int (nI ((fun _ => 0) b9)))) := by rw [← e22]; exact (xup_ne (by omega)).trans h4
  have h5 : F22 (m + 5) = some (.inr (0, 8, fun b9 => .int (nI ((fun _ => 0) b9)))) := by rw [← e22]; exact (xup_ne (by omega)).trans h5
  have h6 : F22 (m + 6) = some (.inr (0, 112, fun b9 => .int (nI ((fun _ => 0) b9)))) := by rw [← e22]; exact (xup_ne (by omega)).trans h6
  have h7 : F22 (m + 7) = some (.inr (0, 16, fun b9 => .int (nI ((fun _ => 0) b9)))) := by rw [← e22]; exact (xup_ne (by omega)).trans h7
  have h8 : F22 (m + 8) = some (.inr (0, 17, fun b9 => .int (nI ((fun _ => 0) b9)))) := by rw [← e22]; exact (xup_ne (by omega)).trans h8
  have h9 : F22 (m + 9) = some (.inr (1, 40, fun b9 => .int (nI ((fun _ => 0) b9)))) := by rw [← e22]; exact (xup_ne (by omega)).trans h9
  have hi : F22 (m + 10) = some (.inr (1, 60, fun b9 => .int (nI ((fun _ => 0) b9)))) := by rw [← e22]; exact (xup_ne (by omega)).trans hi
  have hag : ∀ a9 : Nat, (a9 < m ∨ m + 12 ≤ a9) → F22 a9 = F a9 := fun a9 q0 => by rw [← e22]; exact (xup_ne (by omega)).trans (hag a9 q0)
  refine x_aload_n hC d_MessageCoderModel_init_95 rfl rfl ?_
  refine x_sipush hC d_MessageCoderModel_init_96 (v := nI 183) (by decide) ?_
  refine x_newa hC (t := 0) rfl (by decide) (by decide) (x_in (x_of (xtb_1 (List.mem_of_getElem? (i := 101) (by decide +kernel)))) (by decide +kernel)) rfl (by omega) (by decide) (by decide) (f1 := fun b9 => .int (nI ((fun _ => 0) b9))) rfl d_MessageCoderModel_init_99 ?_
  generalize e23 : xup F22 (m + 11) (.inr (0, 183, fun b9 => .int (nI ((fun _ => 0) b9)))) = F23
  have o0 : F23 (m) = some (.inl (10, [.int (nI 0), .ref (m + 1), .int (nI 0), .int (nI 0), .int (nI 0), .ref (m + 2), .ref (m + 3), .ref (m + 4), .ref (m + 5), .ref (m + 6), .int (nI 0), .ref (m + 7), .int (nI 0), .ref (m + 8), .ref (m + 9), .int (nI 0), .ref (m + 10), .int (nI 0), .int (nI 0), .int (nI 0), .int (-1), .int (-1), .null, .int (nI 0)])) := by rw [← e23]; exact (xup_ne (by omega)).trans o0
  have ga : F23 (m + 1) = some (.inr (0, 4730, fun b9 => .int (nI ((fun _ => 0) b9)))) := by rw [← e23]; exact (xup_ne (by omega)).trans ga
  have h2 : F23 (m + 2) = some (.inr (0, 8, fun b9 => .int (nI ((fun _ => 0) b9)))) := by rw [← e23]; exact (xup_ne (by omega)).trans h2
  have h3 : F23 (m + 3) = some (.inr (0, 8, fun b9 => .int (nI ((fun _ => 0) b9)))) := by rw [← e23]; exact (xup_ne (by omega)).trans h3
  have h4 : F23 (m + 4) = some (.inr (0, 8, fun b9 => .int (nI ((fun _ => 0) b9)))) := by rw [← e23]; exact (xup_ne (by omega)).trans h4
  have h5 : F23 (m + 5) = some (.inr (0, 8, fun b9 => .int (nI ((fun _ => 0) b9)))) := by rw [← e23]; exact (xup_ne (by omega)).trans h5
  have h6 : F23 (m + 6) = some (.inr (0, 112, fun b9 => .int (nI ((fun _ => 0) b9)))) := by rw [← e23]; exact (xup_ne (by omega)).trans h6
  have h7 : F23 (m + 7) = some (.inr (0, 16, fun b9 => .int (nI ((fun _ => 0) b9)))) := by rw [← e23]; exact (xup_ne (by omega)).trans h7
  have h8 : F23 (m + 8) = some (.inr (0, 17, fun b9 => .int (nI ((fun _ => 0) b9)))) := by rw [← e23]; exact (xup_ne (by omega)).trans h8
  have h9 : F23 (m + 9) = some (.inr (1, 40, fun b9 => .int (nI ((fun _ => 0) b9)))) := by rw [← e23]; exact (xup_ne (by omega)).trans h9
  have hi : F23 (m + 10) = some (.inr (1, 60, fun b9 => .int (nI ((fun _ => 0) b9)))) := by rw [← e23]; exact (xup_ne (by omega)).trans hi
  have hcm : F23 (m + 11) = some (.inr (0, 183, fun b9 => .int (nI ((fun _ => 0) b9)))) := by rw [← e23]; exact xup_eq
  have hag : ∀ a9 : Nat, (a9 < m ∨ m + 12 ≤ a9) → F23 a9 = F a9 := fun a9 q0 => by rw [← e23]; exact (xup_ne (by omega)).trans (hag a9 q0)
  refine x_putF hC hin kk_MessageCoderModel_48 o0 (Nat.le_of_ble_eq_true rfl) rfl rfl d_MessageCoderModel_init_101 (fs1 := [.int (nI 0), .ref (m + 1), .int (nI 0), .int (nI 0), .int (nI 0), .ref (m + 2), .ref (m + 3), .ref (m + 4), .ref (m + 5), .ref (m + 6), .int (nI 0), .ref (m + 7), .int (nI 0), .ref (m + 8), .ref (m + 9), .int (nI 0), .ref (m + 10), .int (nI 0), .int (nI 0), .int (nI 0), .int (-1), .int (-1), .ref (m + 11), .int (nI 0)]) rfl ?_
  generalize e24 : xup F23 (m) (.inl (10, [.int (nI 0), .ref (m + 1), .int (nI 0), .int (nI 0), .int (nI 0), .ref (m + 2), .ref (m + 3), .ref (m + 4), .ref (m + 5), .ref (m + 6), .int (nI 0), .ref (m + 7), .int (nI 0), .ref (m + 8), .ref (m + 9), .int (nI 0), .ref (m + 10), .int (nI 0), .int (nI 0), .int (nI 0), .int (-1), .int (-1), .ref (m + 11), .int (nI 0)])) = F24
  have o0 : F24 (m) = some (.inl (10, [.int (nI 0), .ref (m + 1), .int (nI 0), .int (nI 0), .int (nI 0), .ref (m + 2), .ref (m + 3), .ref (m + 4), .ref (m + 5), .ref (m + 6), .int (nI 0), .ref (m + 7), .int (nI 0), .ref (m + 8), .ref (m + 9), .int (nI 0), .ref (m + 10), .int (nI 0), .int (nI 0), .int (nI 0), .int (-1), .int (-1), .ref (m + 11), .int (nI 0)])) := by rw [← e24]; exact xup_eq
  have ga : F24 (m + 1) = some (.inr (0, 4730, fun b9 => .int (nI ((fun _ => 0) b9)))) := by rw [← e24]; exact (xup_ne (by omega)).trans ga
  have h2 : F24 (m + 2) = some (.inr (0, 8, fun b9 => .int (nI ((fun _ => 0) b9)))) := by rw [← e24]; exact (xup_ne (by omega)).trans h2
  have h3 : F24 (m + 3) = some (.inr (0, 8, fun b9 => .int (nI ((fun _ => 0) b9)))) := by rw [← e24]; exact (xup_ne (by omega)).trans h3
  have h4 : F24 (m + 4) = some (.inr (0, 8, fun b9 => .int (nI ((fun _ => 0) b9)))) := by rw [← e24]; exact (xup_ne (by omega)).trans h4
  have h5 : F24 (m + 5) = some (.inr (0, 8, fun b9 => .int (nI ((fun _ => 0) b9)))) := by rw [← e24]; exact (xup_ne (by omega)).trans h5
  have h6 : F24 (m + 6) = some (.inr (0, 112, fun b9 => .int (nI ((fun _ => 0) b9)))) := by rw [← e24]; exact (xup_ne (by omega)).trans h6
  have h7 : F24 (m + 7) = some (.inr (0, 16, fun b9 => .int (nI ((fun _ => 0) b9)))) := by rw [← e24]; exact (xup_ne (by omega)).trans h7
  have h8 : F24 (m + 8) = some (.inr (0, 17, fun b9 => .int (nI ((fun _ => 0) b9)))) := by rw [← e24]; exact (xup_ne (by omega)).trans h8
  have h9 : F24 (m + 9) = some (.inr (1, 40, fun b9 => .int (nI ((fun _ => 0) b9)))) := by rw [← e24]; exact (xup_ne (by omega)).trans h9
  have hi : F24 (m + 10) = some (.inr (1, 60, fun b9 => .int (nI ((fun _ => 0) b9)))) := by rw [← e24]; exact (xup_ne (by omega)).trans hi
  have hcm : F24 (m + 11) = some (.inr (0, 183, fun b9 => .int (nI ((fun _ => 0) b9)))) := by rw [← e24]; exact (xup_ne (by omega)).trans hcm
  have hag : ∀ a9 : Nat, (a9 < m ∨ m + 12 ≤ a9) → F24 a9 = F a9 := fun a9 q0 => by rw [← e24]; exact (xup_ne (by omega)).trans (hag a9 q0)
  refine x_iconst hC d_MessageCoderModel_init_104 (v := nI 0) (by decide) ?_
  refine x_istore_n hC d_MessageCoderModel_init_105 rfl (Nat.le_of_ble_eq_true rfl) (L1 := [some (.ref m), some (.int (nI 0))]) rfl ?_
  have loop_106 : ∀ (m9 : Nat) (Fh106 : xF) (i : Nat) (p1 : Nat → Nat), (Fh106 (m) = some (.inl (10, [.int (nI 0), .ref (m + 1), .int (nI 0), .int (nI 0), .int (nI 0), .ref (m + 2), .ref (m + 3), .ref (m + 4), .ref (m + 5), .ref (m + 6), .int (nI 0), .ref (m + 7), .int (nI 0), .ref (m + 8), .ref (m + 9), .int (nI 0), .ref (m + 10), .int (nI 0), .int (nI 0), .int (nI 0), .int (-1), .int (-1), .ref (m + 11), .int (nI 0)]))) → (Fh106 (m + 1) = some (.inr (0, 4730, fun b9 => .int (nI (p1 b9))))) → (Fh106 (m + 2) = some (.inr (0, 8, fun b9 => .int (nI ((fun _ => 0) b9))))) → (Fh106 (m + 3) = some (.inr (0, 8, fun b9 => .int (nI ((fun _ => 0) b9))))) → (Fh106 (m + 4) = some (.inr (0, 8, fun b9 => .int (nI ((fun _ => 0) b9))))) → (Fh106 (m + 5) = some (.inr (0, 8, fun b9 => .int (nI ((fun _ => 0) b9))))) → (Fh106 (m + 6) = some (.inr (0, 112, fun b9 => .int (nI ((fun _ => 0) b9))))) → (Fh106 (m + 7) = some (.inr (0, 16, fun b9 => .int (nI ((fun _ => 0) b9))))) → (Fh106 (m + 8) = some (.inr (0, 17, fun b9 => .int (nI ((fun _ => 0) b9))))) → (Fh106 (m + 9) = some (.inr (1, 40, fun b9 => .int (nI ((fun _ => 0) b9))))) → (Fh106 (m + 10) = some (.inr (1, 60, fun b9 => .int (nI ((fun _ => 0) b9))))) → (Fh106 (m + 11) = some (.inr (0, 183, fun b9 => .int (nI ((fun _ => 0) b9))))) → (∀ a9 : Nat, (a9 < m ∨ m + 12 ≤ a9) → Fh106 a9 = F a9) → (i ≤ 8) → (∀ q, p1 q = if 10 ≤ q ∧ q < 10 + i then 1 else 0) → (8 - i < m9) → xX P Θ 106 [some (.ref m), some (.int (nI (i)))] [] Fh106 (m + 12) 11 5190 := by
    intro m9
    induction m9 with
    | zero => intros; omega
    | succ m9 ih_106 =>
      intro Fh106 i p1 o0 ga h2 h3 h4 h5 h6 h7 h8 h9 hi hcm hag hi9 kp hm_106
      refine x_iload_n hC d_MessageCoderModel_init_106 rfl rfl ?_
      refine x_bipush hC d_MessageCoderModel_init_107 (v := nI 8) (by decide) ?_
      refine x_icmpN_ge hC d_MessageCoderModel_init_109 (tgt := 128) (by decide) (by omega) (by omega) (fun c_109 => ?_) (fun c_109 => ?_)
      · skip
        refine hret _ _ _ _ _ _ d_MessageCoderModel_init_128 (by decide) (by decide) ?_
        have hw : ∀ j, j < 8 → p1 (10 + j) = 1 := fun j hj => (kp _).trans (if_pos (by omega))
        have hz : ∀ q, q < 10 → p1 q = 0 := fun q hq => (kp q).trans (if_neg (by omega))
        have h0 : rMD p1 mc0 := ⟨⟨⟨hz 0 (by omega), hz 1 (by omega), hz 2 (by omega), hz 3 (by omega), hz 4 (by omega), hz 5 (by omega), hz 6 (by omega), hz 7 (by omega), hz 9 (by omega)⟩, hw, fun j hj => absurd hj (Nat.not_lt_zero j), fun j hj => absurd hj (Nat.not_lt_zero j), fun h => absurd h (Nat.lt_irrefl 0), fun j hj => absurd hj (Nat.not_lt_zero j), fun j hj => absurd hj (Nat.not_lt_zero j)⟩, fun i hi => absurd hi (Nat.not_lt_zero i), fun h => absurd h (Nat.lt_irrefl 0)⟩
        exact ⟨rfl, rfl, ⟨_, _, _, _, _, _, _, _, _, _, _, _, _, _, _, _, _, o0, ga, h2, h3, h4, h5, h6, h7, h8, h9, hi, hcm, h0, (fun j hj => absurd hj (Nat.not_lt_zero j)), (fun j hj => absurd hj (Nat.not_lt_zero j))⟩, hag⟩
      · skip
        refine x_aload_n hC d_MessageCoderModel_init_112 rfl rfl ?_
        refine x_getf hC kf_MessageCoderModel_9 o0 rfl d_MessageCoderModel_init_113 ?_
        refine x_bipush hC d_MessageCoderModel_init_116 (v := nI 10) (by decide) ?_
        refine x_iload_n hC d_MessageCoderModel_init_118 rfl rfl ?_
        refine x_iadd hC d_MessageCoderModel_init_119 (v := (nI (10 + i))) (x_addN (by omega)) ?_
        refine x_iconst hC d_MessageCoderModel_init_120 (v := nI 1) (by decide) ?_
        refine x_iast hC ga (j := 10 + i) ⟨rfl, by omega, by omega⟩ d_MessageCoderModel_init_121 (g1 := fun b9 => nI (updN p1 (10 + i) (1) b9)) (x_updN _ _ _) ?_
        generalize egw : updN p1 (10 + i) (1) = gw
        generalize e26 : xup Fh106 (m + 1) (.inr (0, 4730, fun b9 => .int (nI (gw b9)))) = F26
        have o0 : F26 (m) = some (.inl (10, [.int (nI 0), .ref (m + 1), .int (nI 0), .int (nI 0), .int (nI 0), .ref (m + 2), .ref (m + 3), .ref (m + 4), .ref (m + 5), .ref (m + 6), .int (nI 0), .ref (m + 7), .int (nI 0), .ref (m + 8), .ref (m + 9), .int (nI 0), .ref (m + 10), .int (nI 0), .int (nI 0), .int (nI 0), .int (-1), .int (-1), .ref (m + 11), .int (nI 0)])) := by rw [← e26]; exact (xup_ne (by omega)).trans o0
        have ga : F26 (m + 1) = some (.inr (0, 4730, fun b9 => .int (nI (gw b9)))) := by rw [← e26]; exact xup_eq
        have h2 : F26 (m + 2) = some (.inr (0, 8, fun b9 => .int (nI ((fun _ => 0) b9)))) := by rw [← e26]; exact (xup_ne (by omega)).trans h2
        have h3 : F26 (m + 3) = some (.inr (0, 8, fun b9 => .int (nI ((fun _ => 0) b9)))) := by rw [← e26]; exact (xup_ne (by omega)).trans h3
        have h4 : F26 (m + 4) = some (.inr (0, 8, fun b9 => .int (nI ((fun _ => 0) b9)))) := by rw [← e26]; exact (xup_ne (by omega)).trans h4
        have h5 : F26 (m + 5) = some (.inr (0, 8, fun b9 => .int (nI ((fun _ => 0) b9)))) := by rw [← e26]; exact (xup_ne (by omega)).trans h5
        have h6 : F26 (m + 6) = some (.inr (0, 112, fun b9 => .int (nI ((fun _ => 0) b9)))) := by rw [← e26]; exact (xup_ne (by omega)).trans h6
        have h7 : F26 (m + 7) = some (.inr (0, 16, fun b9 => .int (nI ((fun _ => 0) b9)))) := by rw [← e26]; exact (xup_ne (by omega)).trans h7
        have h8 : F26 (m + 8) = some (.inr (0, 17, fun b9 => .int (nI ((fun _ => 0) b9)))) := by rw [← e26]; exact (xup_ne (by omega)).trans h8
        have h9 : F26 (m + 9) = some (.inr (1, 40, fun b9 => .int (nI ((fun _ => 0) b9)))) := by rw [← e26]; exact (xup_ne (by omega)).trans h9
        have hi : F26 (m + 10) = some (.inr (1, 60, fun b9 => .int (nI ((fun _ => 0) b9)))) := by rw [← e26]; exact (xup_ne (by omega)).trans hi
        have hcm : F26 (m + 11) = some (.inr (0, 183, fun b9 => .int (nI ((fun _ => 0) b9)))) := by rw [← e26]; exact (xup_ne (by omega)).trans hcm
        have hag : ∀ a9 : Nat, (a9 < m ∨ m + 12 ≤ a9) → F26 a9 = F a9 := fun a9 q0 => by rw [← e26]; exact (xup_ne (by omega)).trans (hag a9 q0)
        refine x_iinc hC d_MessageCoderModel_init_122 rfl (v := (nI (i + 1))) (x_incN 1) (Nat.le_of_ble_eq_true rfl) (L1 := [some (.ref m), some (.int (nI (i + 1)))]) rfl ?_
        refine x_goto hC d_MessageCoderModel_init_125 (tgt := 106) (by decide) ?_
        exact ih_106 F26 (i + 1) (gw) o0 ga h2 h3 h4 h5 h6 h7 h8 h9 hi hcm hag (by omega) (fun q => by rw [← egw]; by_cases e : q = 10 + i; (rw [e, updN_eq, if_pos (by omega)]); (rw [updN_ne e, kp q]; by_cases c : 10 ≤ q ∧ q < 10 + i; (rw [if_pos c, if_pos (by omega)]); (rw [if_neg c, if_neg (by omega)]))) (by omega)
  exact loop_106 (8 - 0 + 1) F24 (0) ((fun _ => 0)) o0 ga h2 h3 h4 h5 h6 h7 h8 h9 hi hcm hag (by omega) (fun q => (if_neg (by omega)).symm) (by omega)

