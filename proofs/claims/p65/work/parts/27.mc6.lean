/-! the constructors -/
theorem mnF_o {F : xF} {z a : Nat} (h : a < z) : mnF F z a = F a := by
  unfold mnF
  rw [if_neg (by omega), if_neg (by omega)]
theorem mnF_m {F : xF} {z a : Nat} (h : a < z ∨ z + 8 < a) : mnF F z a = F a := by
  unfold mnF
  rw [if_neg (by omega), if_neg (by omega)]
theorem mnF_0 {F : xF} {z : Nat} : mnF F z z = some (.inr (7, 8, fun j => if j < 8 then .ref (z + 1 + j) else .null)) := if_pos rfl
theorem mnF_i {F : xF} {z a : Nat} (h1 : z < a) (h2 : a ≤ z + 8) : mnF F z a = some (.inr (0, 8, fun _ => .int (nI 0))) := by
  unfold mnF
  rw [if_neg (by omega), if_pos ⟨h1, h2⟩]
theorem all9 {Q : Nat → Prop} (h0 : Q 0) (h1 : Q 1) (h2 : Q 2) (h3 : Q 3) (h4 : Q 4) (h5 : Q 5) (h6 : Q 6) (h7 : Q 7) (h8 : Q 8) : ∀ i, i < 9 → Q i := by
  intro i hi
  match i, hi with
  | 0, _ => exact h0
  | 1, _ => exact h1
  | 2, _ => exact h2
  | 3, _ => exact h3
  | 4, _ => exact h4
  | 5, _ => exact h5
  | 6, _ => exact h6
  | 7, _ => exact h7
  | 8, _ => exact h8
  | n + 9, h => exact absurd h (by omega)
def K00 : kS := (0, fun _ => 0, fun _ => 0, fun _ => 0, fun _ => 0)
def mc0 : mcS := (aS0, aS0, fun _ => aS0, (0, fun _ => 0), (0, fun _ => 0), 0, 0, 0, -1, -1)

theorem d_Ranges_init_0 : decode prog_10_method_1_code 0 = .ok (.aload_n 0, 1) := by decide +kernel
theorem d_Ranges_init_1 : decode prog_10_method_1_code 1 = .ok (.invokespecial 3, 3) := by decide +kernel
theorem d_Ranges_init_4 : decode prog_10_method_1_code 4 = .ok (.aload_n 0, 1) := by decide +kernel
theorem d_Ranges_init_5 : decode prog_10_method_1_code 5 = .ok (.bipush 8, 2) := by decide +kernel
theorem d_Ranges_init_7 : decode prog_10_method_1_code 7 = .ok (.newarray .int, 2) := by decide +kernel
theorem d_Ranges_init_9 : decode prog_10_method_1_code 9 = .ok (.putfield 9, 3) := by decide +kernel
theorem d_Ranges_init_12 : decode prog_10_method_1_code 12 = .ok (.aload_n 0, 1) := by decide +kernel
theorem d_Ranges_init_13 : decode prog_10_method_1_code 13 = .ok (.bipush 8, 2) := by decide +kernel
theorem d_Ranges_init_15 : decode prog_10_method_1_code 15 = .ok (.bipush 8, 2) := by decide +kernel
theorem d_Ranges_init_17 : decode prog_10_method_1_code 17 = .ok (.multianewarray 15 2, 4) := by decide +kernel
theorem d_Ranges_init_21 : decode prog_10_method_1_code 21 = .ok (.putfield 17, 3) := by decide +kernel
theorem d_Ranges_init_24 : decode prog_10_method_1_code 24 = .ok (.return_, 1) := by decide +kernel
set_option maxHeartbeats 4000000 in
set_option maxRecDepth 20000 in
theorem c_Ranges_init {P : xP} {F : xF} {g : Nat} (h0 : F (g) = some (.inl (6, [.null, .null])))  : xM P xy_Ranges_init [.ref g] F (g + 1) 10 80 (fun r9 F9 z9 => r9 = none ∧ z9 = g + 11 ∧ xRg F9 (g) ∧ (∀ a9 : Nat, (a9 < g ∨ g + 11 ≤ a9) → F9 a9 = F a9)) := by
  refine xM_v rfl (Nat.le_of_ble_eq_true rfl) (L0 := [some (.ref g)]) rfl rfl fun Θ hC hin hret => ?_
  have hag : ∀ a9 : Nat, (a9 < g ∨ g + 11 ≤ a9) → F a9 = F a9 := fun a9 _ => rfl
  refine x_aload_n hC d_Ranges_init_0 rfl rfl ?_
  refine x_objInit hC ko_Ranges_3 rfl (by decide) (Nat.le_of_ble_eq_true rfl) d_Ranges_init_1 ?_
  refine x_aload_n hC d_Ranges_init_4 rfl rfl ?_
  refine x_bipush hC d_Ranges_init_5 (v := nI 8) (by decide) ?_
  refine x_newa hC (t := 0) rfl (by decide) (by decide) (x_in (x_of (xtb_1 (List.mem_of_getElem? (i := 109) (by decide +kernel)))) (by decide +kernel)) rfl (by omega) (by decide) (by decide) (f1 := fun b9 => .int (nI ((fun _ => 0) b9))) rfl d_Ranges_init_7 ?_
  generalize e1 : xup F (g + 1) (.inr (0, 8, fun b9 => .int (nI ((fun _ => 0) b9)))) = F1
  have h0 : F1 (g) = some (.inl (6, [.null, .null])) := by rw [← e1]; exact (xup_ne (by omega)).trans h0
  have hz1 : F1 (g + 1) = some (.inr (0, 8, fun b9 => .int (nI ((fun _ => 0) b9)))) := by rw [← e1]; exact xup_eq
  have hag : ∀ a9 : Nat, (a9 < g ∨ g + 11 ≤ a9) → F1 a9 = F a9 := fun a9 q0 => by rw [← e1]; exact (xup_ne (by omega)).trans (hag a9 q0)
  refine x_putF hC hin kk_Ranges_9 h0 (Nat.le_of_ble_eq_true rfl) rfl rfl d_Ranges_init_9 (fs1 := [.ref (g + 1), .null]) rfl ?_
  generalize e2 : xup F1 (g) (.inl (6, [.ref (g + 1), .null])) = F2
  have h0 : F2 (g) = some (.inl (6, [.ref (g + 1), .null])) := by rw [← e2]; exact xup_eq
  have hz1 : F2 (g + 1) = some (.inr (0, 8, fun b9 => .int (nI ((fun _ => 0) b9)))) := by rw [← e2]; exact (xup_ne (by omega)).trans hz1
  have hag : ∀ a9 : Nat, (a9 < g ∨ g + 11 ≤ a9) → F2 a9 = F a9 := fun a9 q0 => by rw [← e2]; exact (xup_ne (by omega)).trans (hag a9 q0)
  refine x_aload_n hC d_Ranges_init_12 rfl rfl ?_
  refine x_bipush hC d_Ranges_init_13 (v := nI 8) (by decide) ?_
  refine x_bipush hC d_Ranges_init_15 (v := nI 8) (by decide) ?_
  refine x_mna hC (x_in (x_of (xtb_2 (List.mem_of_getElem? (i := 61) (by decide +kernel)))) (by decide +kernel)) (x_inN (xtb_2 (List.mem_of_getElem? (i := 62) (by decide +kernel))) (by decide +kernel)) (x_in (x_of (xtb_1 (List.mem_of_getElem? (i := 109) (by decide +kernel)))) (by decide +kernel)) (by decide) d_Ranges_init_17 ?_
  generalize e3 : mnF F2 (g + 2) = F3
  have h0 : F3 (g) = some (.inl (6, [.ref (g + 1), .null])) := by rw [← e3]; exact (mnF_o (by omega)).trans h0
  have hz1 : F3 (g + 1) = some (.inr (0, 8, fun b9 => .int (nI ((fun _ => 0) b9)))) := by rw [← e3]; exact (mnF_o (by omega)).trans hz1
  have hz2 : F3 (g + 2) = some (.inr (7, 8, (fun j => if j < 8 then .ref (g + 2 + 1 + j) else .null))) := by rw [← e3]; exact mnF_0
  have hrl : xRl F3 (g) ((fun _ _ => 0)) := fun i hi => by rw [← e3]; exact mnF_i (by omega) (by omega)
  have hag : ∀ a9 : Nat, (a9 < g ∨ g + 11 ≤ a9) → F3 a9 = F a9 := fun a9 q0 => by rw [← e3]; exact (mnF_m (by omega)).trans (hag a9 q0)
  refine x_putF hC hin kk_Ranges_17 h0 (Nat.le_of_ble_eq_true rfl) rfl rfl d_Ranges_init_21 (fs1 := [.ref (g + 1), .ref (g + 2)]) rfl ?_
  generalize e4 : xup F3 (g) (.inl (6, [.ref (g + 1), .ref (g + 2)])) = F4
  have h0 : F4 (g) = some (.inl (6, [.ref (g + 1), .ref (g + 2)])) := by rw [← e4]; exact xup_eq
  have hz1 : F4 (g + 1) = some (.inr (0, 8, fun b9 => .int (nI ((fun _ => 0) b9)))) := by rw [← e4]; exact (xup_ne (by omega)).trans hz1
  have hz2 : F4 (g + 2) = some (.inr (7, 8, (fun j => if j < 8 then .ref (g + 2 + 1 + j) else .null))) := by rw [← e4]; exact (xup_ne (by omega)).trans hz2
  have hrl : xRl F4 (g) ((fun _ _ => 0)) := xRl_fr hrl (fun a9 q1 q2 => by rw [← e4]; exact xup_ne (by omega))
  have hag : ∀ a9 : Nat, (a9 < g ∨ g + 11 ≤ a9) → F4 a9 = F a9 := fun a9 q0 => by rw [← e4]; exact (xup_ne (by omega)).trans (hag a9 q0)
  exact hret _ _ _ _ _ _ d_Ranges_init_24 (by decide) (by decide) (⟨rfl, rfl, ⟨h0, ⟨_, hz1⟩, ⟨_, hz2, fun i hi => (show (if i < 8 then Value.ref (g + 2 + 1 + i) else .null) = .ref (g + 3 + i) from if_pos hi)⟩, fun _ _ => 0, hrl, fun _ _ => rfl⟩, hag⟩)

theorem d_Program_init_0 : decode prog_8_method_1_code 0 = .ok (.aload_n 0, 1) := by decide +kernel
theorem d_Program_init_1 : decode prog_8_method_1_code 1 = .ok (.invokespecial 3, 3) := by decide +kernel
theorem d_Program_init_4 : decode prog_8_method_1_code 4 = .ok (.aload_n 0, 1) := by decide +kernel
theorem d_Program_init_5 : decode prog_8_method_1_code 5 = .ok (.new 9, 3) := by decide +kernel
theorem d_Program_init_8 : decode prog_8_method_1_code 8 = .ok (.dup, 1) := by decide +kernel
theorem d_Program_init_9 : decode prog_8_method_1_code 9 = .ok (.bipush 60, 2) := by decide +kernel
theorem d_Program_init_11 : decode prog_8_method_1_code 11 = .ok (.invokespecial 11, 3) := by decide +kernel
theorem d_Program_init_14 : decode prog_8_method_1_code 14 = .ok (.putfield 14, 3) := by decide +kernel
theorem d_Program_init_17 : decode prog_8_method_1_code 17 = .ok (.aload_n 0, 1) := by decide +kernel
theorem d_Program_init_18 : decode prog_8_method_1_code 18 = .ok (.bipush 60, 2) := by decide +kernel
theorem d_Program_init_20 : decode prog_8_method_1_code 20 = .ok (.anewarray 20, 3) := by decide +kernel
theorem d_Program_init_23 : decode prog_8_method_1_code 23 = .ok (.putfield 22, 3) := by decide +kernel
theorem d_Program_init_26 : decode prog_8_method_1_code 26 = .ok (.aload_n 0, 1) := by decide +kernel
theorem d_Program_init_27 : decode prog_8_method_1_code 27 = .ok (.bipush 60, 2) := by decide +kernel
theorem d_Program_init_29 : decode prog_8_method_1_code 29 = .ok (.newarray .int, 2) := by decide +kernel
theorem d_Program_init_31 : decode prog_8_method_1_code 31 = .ok (.putfield 26, 3) := by decide +kernel
theorem d_Program_init_34 : decode prog_8_method_1_code 34 = .ok (.aload_n 0, 1) := by decide +kernel
theorem d_Program_init_35 : decode prog_8_method_1_code 35 = .ok (.bipush 60, 2) := by decide +kernel
theorem d_Program_init_37 : decode prog_8_method_1_code 37 = .ok (.newarray .int, 2) := by decide +kernel
theorem d_Program_init_39 : decode prog_8_method_1_code 39 = .ok (.putfield 30, 3) := by decide +kernel
theorem d_Program_init_42 : decode prog_8_method_1_code 42 = .ok (.aload_n 0, 1) := by decide +kernel
theorem d_Program_init_43 : decode prog_8_method_1_code 43 = .ok (.bipush 60, 2) := by decide +kernel
theorem d_Program_init_45 : decode prog_8_method_1_code 45 = .ok (.newarray .int, 2) := by decide +kernel
theorem d_Program_init_47 : decode prog_8_method_1_code 47 = .ok (.putfield 33, 3) := by decide +kernel
theorem d_Program_init_50 : decode prog_8_method_1_code 50 = .ok (.return_, 1) := by decide +kernel
set_option maxHeartbeats 4000000 in
set_option maxRecDepth 20000 in
theorem c_Program_init {P : xP} {F : xF} {g : Nat} {ce : Nat → Nat} (h0 : F (g) = some (.inl (4, [.null, .null, .null, .null, .null, .int (nI 0), .int (nI 0), .int (nI 0), .int (nI 0), .int (nI 0), .int (nI 0)])))  : xM P xy_Program_init [.ref g] F (g + 1) 6 302 (fun r9 F9 z9 => r9 = none ∧ z9 = g + 7 ∧ F9 (g) = some (.inl (4, [.ref (g + 1), .ref (g + 3), .ref (g + 4), .ref (g + 5), .ref (g + 6), .int (nI 0), .int (nI 0), .int (nI 0), .int (nI 0), .int (nI 0), .int (nI 0)])) ∧ xTx F9 (g + 1) (60) (0) ((fun _ => 0)) ∧ xPk F9 (g) (ce) (K00) ∧ (∀ a9 : Nat, (a9 < g ∨ g + 7 ≤ a9) → F9 a9 = F a9)) := by
  refine xM_v rfl (Nat.le_of_ble_eq_true rfl) (L0 := [some (.ref g)]) rfl rfl fun Θ hC hin hret => ?_
  have hag : ∀ a9 : Nat, (a9 < g ∨ g + 7 ≤ a9) → F a9 = F a9 := fun a9 _ => rfl
  refine x_aload_n hC d_Program_init_0 rfl rfl ?_
  refine x_objInit hC ko_Program_3 rfl (by decide) (Nat.le_of_ble_eq_true rfl) d_Program_init_1 ?_
  refine x_aload_n hC d_Program_init_4 rfl rfl ?_
  refine x_new hC (fs := [.null, .int (nI 0)]) kn_Program_9 (by decide) d_Program_init_5 ?_
  generalize e1 : xup F (g + 1) (.inl (8, [.null, .int (nI 0)])) = F1
  have h0 : F1 (g) = some (.inl (4, [.null, .null, .null, .null, .null, .int (nI 0), .int (nI 0), .int (nI 0), .int (nI 0), .int (nI 0), .int (nI 0)])) := by rw [← e1]; exact (xup_ne (by omega)).trans h0
  have hz1 : F1 (g + 1) = some (.inl (8, [.null, .int (nI 0)])) := by rw [← e1]; exact xup_eq
  have hag : ∀ a9 : Nat, (a9 < g ∨ g + 7 ≤ a9) → F1 a9 = F a9 := fun a9 q0 => by rw [← e1]; exact (xup_ne (by omega)).trans (hag a9 q0)
  refine x_dup hC d_Program_init_8 rfl ?_
  refine x_bipush hC d_Program_init_9 (v := nI 60) (by decide) ?_
  refine x_callI hC ki_Program_11 rfl (c_Text_init60 (h0 := hz1)) (by decide) rfl rfl rfl (Nat.le_of_ble_eq_true rfl) (by decide) d_Program_init_11 (fun r9 F9 z9 hp9 => ?_)
  obtain ⟨rfl, h9c, j0, hag9⟩ := hp9
  rw [h9c]
  clear h9c z9
  generalize F9 = F2 at *
  have h0 : F2 (g) = some (.inl (4, [.null, .null, .null, .null, .null, .int (nI 0), .int (nI 0), .int (nI 0), .int (nI 0), .int (nI 0), .int (nI 0)])) := (hag9 _ (by omega)).trans h0
  have hz1 : xTx F2 ((g + 1)) (60) (0) ((fun _ => 0)) := j0
  have hag : ∀ a9 : Nat, (a9 < g ∨ g + 7 ≤ a9) → F2 a9 = F a9 := fun a9 q0 => (hag9 a9 (by omega)).trans (hag a9 q0)
  have hg_11 := hag9
  clear hag9
  refine x_putF hC hin kk_Program_14 h0 (Nat.le_of_ble_eq_true rfl) rfl rfl d_Program_init_14 (fs1 := [.ref (g + 1), .null, .null, .null, .null, .int (nI 0), .int (nI 0), .int (nI 0), .int (nI 0), .int (nI 0), .int (nI 0)]) rfl ?_
  generalize e3 : xup F2 (g) (.inl (4, [.ref (g + 1), .null, .null, .null, .null, .int (nI 0), .int (nI 0), .int (nI 0), .int (nI 0), .int (nI 0), .int (nI 0)])) = F3
  have h0 : F3 (g) = some (.inl (4, [.ref (g + 1), .null, .null, .null, .null, .int (nI 0), .int (nI 0), .int (nI 0), .int (nI 0), .int (nI 0), .int (nI 0)])) := by rw [← e3]; exact xup_eq
  have hz1 : xTx F3 ((g + 1)) (60) (0) ((fun _ => 0)) := xTx_fr hz1 (fun a9 q1 q2 => by rw [← e3]; exact xup_ne (by omega))
  have hag : ∀ a9 : Nat, (a9 < g ∨ g + 7 ≤ a9) → F3 a9 = F a9 := fun a9 q0 => by rw [← e3]; exact (xup_ne (by omega)).trans (hag a9 q0)
  refine x_aload_n hC d_Program_init_17 rfl rfl ?_
  refine x_bipush hC d_Program_init_18 (v := nI 60) (by decide) ?_
  refine x_anewa hC (t := 6) rfl (by decide) (x_in (x_of (xtb_2 (List.mem_of_getElem? (i := 8) (by decide +kernel)))) (by decide +kernel)) (x_inN (xtb_2 (List.mem_of_getElem? (i := 9) (by decide +kernel))) (by decide +kernel)) rfl (by omega) (by decide) (by decide) d_Program_init_20 ?_
  generalize e4 : xup F3 (g + 3) (.inr (6, 60, (fun _ => .null))) = F4
  have h0 : F4 (g) = some (.inl (4, [.ref (g + 1), .null, .null, .null, .null, .int (nI 0), .int (nI 0), .int (nI 0), .int (nI 0), .int (nI 0), .int (nI 0)])) := by rw [← e4]; exact (xup_ne (by omega)).trans h0
  have hz1 : xTx F4 ((g + 1)) (60) (0) ((fun _ => 0)) := xTx_fr hz1 (fun a9 q1 q2 => by rw [← e4]; exact xup_ne (by omega))
  have hz2 : F4 (g + 3) = some (.inr (6, 60, (fun _ => .null))) := by rw [← e4]; exact xup_eq
  have hag : ∀ a9 : Nat, (a9 < g ∨ g + 7 ≤ a9) → F4 a9 = F a9 := fun a9 q0 => by rw [← e4]; exact (xup_ne (by omega)).trans (hag a9 q0)
  refine x_putF hC hin kk_Program_22 h0 (Nat.le_of_ble_eq_true rfl) rfl rfl d_Program_init_23 (fs1 := [.ref (g + 1), .ref (g + 3), .null, .null, .null, .int (nI 0), .int (nI 0), .int (nI 0), .int (nI 0), .int (nI 0), .int (nI 0)]) rfl ?_
  generalize e5 : xup F4 (g) (.inl (4, [.ref (g + 1), .ref (g + 3), .null, .null, .null, .int (nI 0), .int (nI 0), .int (nI 0), .int (nI 0), .int (nI 0), .int (nI 0)])) = F5
  have h0 : F5 (g) = some (.inl (4, [.ref (g + 1), .ref (g + 3), .null, .null, .null, .int (nI 0), .int (nI 0), .int (nI 0), .int (nI 0), .int (nI 0), .int (nI 0)])) := by rw [← e5]; exact xup_eq
  have hz1 : xTx F5 ((g + 1)) (60) (0) ((fun _ => 0)) := xTx_fr hz1 (fun a9 q1 q2 => by rw [← e5]; exact xup_ne (by omega))
  have hz2 : F5 (g + 3) = some (.inr (6, 60, (fun _ => .null))) := by rw [← e5]; exact (xup_ne (by omega)).trans hz2
  have hag : ∀ a9 : Nat, (a9 < g ∨ g + 7 ≤ a9) → F5 a9 = F a9 := fun a9 q0 => by rw [← e5]; exact (xup_ne (by omega)).trans (hag a9 q0)
  refine x_aload_n hC d_Program_init_26 rfl rfl ?_
  refine x_bipush hC d_Program_init_27 (v := nI 60) (by decide) ?_
  refine x_newa hC (t := 0) rfl (by decide) (by decide) (x_in (x_of (xtb_1 (List.mem_of_getElem? (i := 109) (by decide +kernel)))) (by decide +kernel)) rfl (by omega) (by decide) (by decide) (f1 := fun b9 => .int (nI ((fun _ => 0) b9))) rfl d_Program_init_29 ?_
  generalize e6 : xup F5 (g + 4) (.inr (0, 60, fun b9 => .int (nI ((fun _ => 0) b9)))) = F6
  have h0 : F6 (g) = some (.inl (4, [.ref (g + 1), .ref (g + 3), .null, .null, .null, .int (nI 0), .int (nI 0), .int (nI 0), .int (nI 0), .int (nI 0), .int (nI 0)])) := by rw [← e6]; exact (xup_ne (by omega)).trans h0
  have hz1 : xTx F6 ((g + 1)) (60) (0) ((fun _ => 0)) := xTx_fr hz1 (fun a9 q1 q2 => by rw [← e6]; exact xup_ne (by omega))
  have hz2 : F6 (g + 3) = some (.inr (6, 60, (fun _ => .null))) := by rw [← e6]; exact (xup_ne (by omega)).trans hz2
  have hz3 : F6 (g + 4) = some (.inr (0, 60, fun b9 => .int (nI ((fun _ => 0) b9)))) := by rw [← e6]; exact xup_eq
  have hag : ∀ a9 : Nat, (a9 < g ∨ g + 7 ≤ a9) → F6 a9 = F a9 := fun a9 q0 => by rw [← e6]; exact (xup_ne (by omega)).trans (hag a9 q0)
  refine x_putF hC hin kk_Program_26 h0 (Nat.le_of_ble_eq_true rfl) rfl rfl d_Program_init_31 (fs1 := [.ref (g + 1), .ref (g + 3), .ref (g + 4), .null, .null, .int (nI 0), .int (nI 0), .int (nI 0), .int (nI 0), .int (nI 0), .int (nI 0)]) rfl ?_
  generalize e7 : xup F6 (g) (.inl (4, [.ref (g + 1), .ref (g + 3), .ref (g + 4), .null, .null, .int (nI 0), .int (nI 0), .int (nI 0), .int (nI 0), .int (nI 0), .int (nI 0)])) = F7
  have h0 : F7 (g) = some (.inl (4, [.ref (g + 1), .ref (g + 3), .ref (g + 4), .null, .null, .int (nI 0), .int (nI 0), .int (nI 0), .int (nI 0), .int (nI 0), .int (nI 0)])) := by rw [← e7]; exact xup_eq
  have hz1 : xTx F7 ((g + 1)) (60) (0) ((fun _ => 0)) := xTx_fr hz1 (fun a9 q1 q2 => by rw [← e7]; exact xup_ne (by omega))
  have hz2 : F7 (g + 3) = some (.inr (6, 60, (fun _ => .null))) := by rw [← e7]; exact (xup_ne (by omega)).trans hz2
  have hz3 : F7 (g + 4) = some (.inr (0, 60, fun b9 => .int (nI ((fun _ => 0) b9)))) := by rw [← e7]; exact (xup_ne (by omega)).trans hz3
  have hag : ∀ a9 : Nat, (a9 < g ∨ g + 7 ≤ a9) → F7 a9 = F a9 := fun a9 q0 => by rw [← e7]; exact (xup_ne (by omega)).trans (hag a9 q0)
  refine x_aload_n hC d_Program_init_34 rfl rfl ?_
  refine x_bipush hC d_Program_init_35 (v := nI 60) (by decide) ?_
  refine x_newa hC (t := 0) rfl (by decide) (by decide) (x_in (x_of (xtb_1 (List.mem_of_getElem? (i := 109) (by decide +kernel)))) (by decide +kernel)) rfl (by omega) (by decide) (by decide) (f1 := fun b9 => .int (nI ((fun _ => 0) b9))) rfl d_Program_init_37 ?_
  generalize e8 : xup F7 (g + 5) (.inr (0, 60, fun b9 => .int (nI ((fun _ => 0) b9)))) = F8
  have h0 : F8 (g) = some (.inl (4, [.ref (g + 1), .ref (g + 3), .ref (g + 4), .null, .null, .int (nI 0), .int (nI 0), .int (nI 0), .int (nI 0), .int (nI 0), .int (nI 0)])) := by rw [← e8]; exact (xup_ne (by omega)).trans h0
  have hz1 : xTx F8 ((g + 1)) (60) (0) ((fun _ => 0)) := xTx_fr hz1 (fun a9 q1 q2 => by rw [← e8]; exact xup_ne (by omega))
  have hz2 : F8 (g + 3) = some (.inr (6, 60, (fun _ => .null))) := by rw [← e8]; exact (xup_ne (by omega)).trans hz2
  have hz3 : F8 (g + 4) = some (.inr (0, 60, fun b9 => .int (nI ((fun _ => 0) b9)))) := by rw [← e8]; exact (xup_ne (by omega)).trans hz3
  have hz4 : F8 (g + 5) = some (.inr (0, 60, fun b9 => .int (nI ((fun _ => 0) b9)))) := by rw [← e8]; exact xup_eq
  have hag : ∀ a9 : Nat, (a9 < g ∨ g + 7 ≤ a9) → F8 a9 = F a9 := fun a9 q0 => by rw [← e8]; exact (xup_ne (by omega)).trans (hag a9 q0)
  refine x_putF hC hin kk_Program_30 h0 (Nat.le_of_ble_eq_true rfl) rfl rfl d_Program_init_39 (fs1 := [.ref (g + 1), .ref (g + 3), .ref (g + 4), .ref (g + 5), .null, .int (nI 0), .int (nI 0), .int (nI 0), .int (nI 0), .int (nI 0), .int (nI 0)]) rfl ?_
  generalize e9 : xup F8 (g) (.inl (4, [.ref (g + 1), .ref (g + 3), .ref (g + 4), .ref (g + 5), .null, .int (nI 0), .int (nI 0), .int (nI 0), .int (nI 0), .int (nI 0), .int (nI 0)])) = F9
  have h0 : F9 (g) = some (.inl (4, [.ref (g + 1), .ref (g + 3), .ref (g + 4), .ref (g + 5), .null, .int (nI 0), .int (nI 0), .int (nI 0), .int (nI 0), .int (nI 0), .int (nI 0)])) := by rw [← e9]; exact xup_eq
  have hz1 : xTx F9 ((g + 1)) (60) (0) ((fun _ => 0)) := xTx_fr hz1 (fun a9 q1 q2 => by rw [← e9]; exact xup_ne (by omega))
  have hz2 : F9 (g + 3) = some (.inr (6, 60, (fun _ => .null))) := by rw [← e9]; exact (xup_ne (by omega)).trans hz2
  have hz3 : F9 (g + 4) = some (.inr (0, 60, fun b9 => .int (nI ((fun _ => 0) b9)))) := by rw [← e9]; exact (xup_ne (by omega)).trans hz3
  have hz4 : F9 (g + 5) = some (.inr (0, 60, fun b9 => .int (nI ((fun _ => 0) b9)))) := by rw [← e9]; exact (xup_ne (by omega)).trans hz4
  have hag : ∀ a9 : Nat, (a9 < g ∨ g + 7 ≤ a9) → F9 a9 = F a9 := fun a9 q0 => by rw [← e9]; exact (xup_ne (by omega)).trans (hag a9 q0)
  refine x_aload_n hC d_Program_init_42 rfl rfl ?_
  refine x_bipush hC d_Program_init_43 (v := nI 60) (by decide) ?_
  refine x_newa hC (t := 0) rfl (by decide) (by decide) (x_in (x_of (xtb_1 (List.mem_of_getElem? (i := 109) (by decide +kernel)))) (by decide +kernel)) rfl (by omega) (by decide) (by decide) (f1 := fun b9 => .int (nI ((fun _ => 0) b9))) rfl d_Program_init_45 ?_
  generalize e10 : xup F9 (g + 6) (.inr (0, 60, fun b9 => .int (nI ((fun _ => 0) b9)))) = F10
  have h0 : F10 (g) = some (.inl (4, [.ref (g + 1), .ref (g + 3), .ref (g + 4), .ref (g + 5), .null, .int (nI 0), .int (nI 0), .int (nI 0), .int (nI 0), .int (nI 0), .int (nI 0)])) := by rw [← e10]; exact (xup_ne (by omega)).trans h0
  have hz1 : xTx F10 ((g + 1)) (60) (0) ((fun _ => 0)) := xTx_fr hz1 (fun a9 q1 q2 => by rw [← e10]; exact xup_ne (by omega))
  have hz2 : F10 (g + 3) = some (.inr (6, 60, (fun _ => .null))) := by rw [← e10]; exact (xup_ne (by omega)).trans hz2
  have hz3 : F10 (g + 4) = some (.inr (0, 60, fun b9 => .int (nI ((fun _ => 0) b9)))) := by rw [← e10]; exact (xup_ne (by omega)).trans hz3
  have hz4 : F10 (g + 5) = some (.inr (0, 60, fun b9 => .int (nI ((fun _ => 0) b9)))) := by rw [← e10]; exact (xup_ne (by omega)).trans hz4
  have hz5 : F10 (g + 6) = some (.inr (0, 60, fun b9 => .int (nI ((fun _ => 0) b9)))) := by rw [← e10]; exact xup_eq
  have hag : ∀ a9 : Nat, (a9 < g ∨ g + 7 ≤ a9) → F10 a9 = F a9 := fun a9 q0 => by rw [← e10]; exact (xup_ne (by omega)).trans (hag a9 q0)
  refine x_putF hC hin kk_Program_33 h0 (Nat.le_of_ble_eq_true rfl) rfl rfl d_Program_init_47 (fs1 := [.ref (g + 1), .ref (g + 3), .ref (g + 4), .ref (g + 5), .ref (g + 6), .int (nI 0), .int (nI 0), .int (nI 0), .int (nI 0), .int (nI 0), .int (nI 0)]) rfl ?_
  generalize e11 : xup F10 (g) (.inl (4, [.ref (g + 1), .ref (g + 3), .ref (g + 4), .ref (g + 5), .ref (g + 6), .int (nI 0), .int (nI 0), .int (nI 0), .int (nI 0), .int (nI 0), .int (nI 0)])) = F11
  have h0 : F11 (g) = some (.inl (4, [.ref (g + 1), .ref (g + 3), .ref (g + 4), .ref (g + 5), .ref (g + 6), .int (nI 0), .int (nI 0), .int (nI 0), .int (nI 0), .int (nI 0), .int (nI 0)])) := by rw [← e11]; exact xup_eq
  have hz1 : xTx F11 ((g + 1)) (60) (0) ((fun _ => 0)) := xTx_fr hz1 (fun a9 q1 q2 => by rw [← e11]; exact xup_ne (by omega))
  have hz2 : F11 (g + 3) = some (.inr (6, 60, (fun _ => .null))) := by rw [← e11]; exact (xup_ne (by omega)).trans hz2
  have hz3 : F11 (g + 4) = some (.inr (0, 60, fun b9 => .int (nI ((fun _ => 0) b9)))) := by rw [← e11]; exact (xup_ne (by omega)).trans hz3
  have hz4 : F11 (g + 5) = some (.inr (0, 60, fun b9 => .int (nI ((fun _ => 0) b9)))) := by rw [← e11]; exact (xup_ne (by omega)).trans hz4
  have hz5 : F11 (g + 6) = some (.inr (0, 60, fun b9 => .int (nI ((fun _ => 0) b9)))) := by rw [← e11]; exact (xup_ne (by omega)).trans hz5
  have hag : ∀ a9 : Nat, (a9 < g ∨ g + 7 ≤ a9) → F11 a9 = F a9 := fun a9 q0 => by rw [← e11]; exact (xup_ne (by omega)).trans (hag a9 q0)
  exact hret _ _ _ _ _ _ d_Program_init_50 (by decide) (by decide) (⟨rfl, rfl, h0, hz1, ⟨Nat.zero_le _, ⟨_, hz2, fun j hj => absurd hj (Nat.not_lt_zero j)⟩, ⟨_, hz3, fun j hj => absurd hj (Nat.not_lt_zero j)⟩, ⟨_, hz4, fun j hj => absurd hj (Nat.not_lt_zero j)⟩, _, hz5, fun j hj => absurd hj (Nat.not_lt_zero j)⟩, hag⟩)

theorem d_MessageCoder_init_0 : decode prog_1_method_1_code 0 = .ok (.aload_n 0, 1) := by decide +kernel
theorem d_MessageCoder_init_1 : decode prog_1_method_1_code 1 = .ok (.invokespecial 3, 3) := by decide +kernel
theorem d_MessageCoder_init_4 : decode prog_1_method_1_code 4 = .ok (.aload_n 0, 1) := by decide +kernel
theorem d_MessageCoder_init_5 : decode prog_1_method_1_code 5 = .ok (.new 9, 3) := by decide +kernel
theorem d_MessageCoder_init_8 : decode prog_1_method_1_code 8 = .ok (.dup, 1) := by decide +kernel
theorem d_MessageCoder_init_9 : decode prog_1_method_1_code 9 = .ok (.invokespecial 11, 3) := by decide +kernel
theorem d_MessageCoder_init_12 : decode prog_1_method_1_code 12 = .ok (.putfield 12, 3) := by decide +kernel
theorem d_MessageCoder_init_15 : decode prog_1_method_1_code 15 = .ok (.aload_n 0, 1) := by decide +kernel
theorem d_MessageCoder_init_16 : decode prog_1_method_1_code 16 = .ok (.new 9, 3) := by decide +kernel
theorem d_MessageCoder_init_19 : decode prog_1_method_1_code 19 = .ok (.dup, 1) := by decide +kernel
theorem d_MessageCoder_init_20 : decode prog_1_method_1_code 20 = .ok (.invokespecial 11, 3) := by decide +kernel
theorem d_MessageCoder_init_23 : decode prog_1_method_1_code 23 = .ok (.putfield 16, 3) := by decide +kernel
theorem d_MessageCoder_init_26 : decode prog_1_method_1_code 26 = .ok (.aload_n 0, 1) := by decide +kernel
theorem d_MessageCoder_init_27 : decode prog_1_method_1_code 27 = .ok (.bipush 9, 2) := by decide +kernel
theorem d_MessageCoder_init_29 : decode prog_1_method_1_code 29 = .ok (.anewarray 9, 3) := by decide +kernel
theorem d_MessageCoder_init_32 : decode prog_1_method_1_code 32 = .ok (.putfield 19, 3) := by decide +kernel
theorem d_MessageCoder_init_35 : decode prog_1_method_1_code 35 = .ok (.aload_n 0, 1) := by decide +kernel
theorem d_MessageCoder_init_36 : decode prog_1_method_1_code 36 = .ok (.new 23, 3) := by decide +kernel
theorem d_MessageCoder_init_39 : decode prog_1_method_1_code 39 = .ok (.dup, 1) := by decide +kernel
theorem d_MessageCoder_init_40 : decode prog_1_method_1_code 40 = .ok (.invokespecial 25, 3) := by decide +kernel
theorem d_MessageCoder_init_43 : decode prog_1_method_1_code 43 = .ok (.putfield 26, 3) := by decide +kernel
theorem d_MessageCoder_init_46 : decode prog_1_method_1_code 46 = .ok (.aload_n 0, 1) := by decide +kernel
theorem d_MessageCoder_init_47 : decode prog_1_method_1_code 47 = .ok (.new 30, 3) := by decide +kernel
theorem d_MessageCoder_init_50 : decode prog_1_method_1_code 50 = .ok (.dup, 1) := by decide +kernel
theorem d_MessageCoder_init_51 : decode prog_1_method_1_code 51 = .ok (.bipush 32, 2) := by decide +kernel
theorem d_MessageCoder_init_53 : decode prog_1_method_1_code 53 = .ok (.invokespecial 32, 3) := by decide +kernel
theorem d_MessageCoder_init_56 : decode prog_1_method_1_code 56 = .ok (.putfield 35, 3) := by decide +kernel
theorem d_MessageCoder_init_59 : decode prog_1_method_1_code 59 = .ok (.aload_n 0, 1) := by decide +kernel
theorem d_MessageCoder_init_60 : decode prog_1_method_1_code 60 = .ok (.new 39, 3) := by decide +kernel
theorem d_MessageCoder_init_63 : decode prog_1_method_1_code 63 = .ok (.dup, 1) := by decide +kernel
theorem d_MessageCoder_init_64 : decode prog_1_method_1_code 64 = .ok (.invokespecial 41, 3) := by decide +kernel
theorem d_MessageCoder_init_67 : decode prog_1_method_1_code 67 = .ok (.putfield 42, 3) := by decide +kernel
theorem d_MessageCoder_init_70 : decode prog_1_method_1_code 70 = .ok (.aload_n 0, 1) := by decide +kernel
theorem d_MessageCoder_init_71 : decode prog_1_method_1_code 71 = .ok (.new 46, 3) := by decide +kernel
theorem d_MessageCoder_init_74 : decode prog_1_method_1_code 74 = .ok (.dup, 1) := by decide +kernel
theorem d_MessageCoder_init_75 : decode prog_1_method_1_code 75 = .ok (.invokespecial 48, 3) := by decide +kernel
theorem d_MessageCoder_init_78 : decode prog_1_method_1_code 78 = .ok (.putfield 49, 3) := by decide +kernel
theorem d_MessageCoder_init_81 : decode prog_1_method_1_code 81 = .ok (.aload_n 0, 1) := by decide +kernel
theorem d_MessageCoder_init_82 : decode prog_1_method_1_code 82 = .ok (.new 30, 3) := by decide +kernel
theorem d_MessageCoder_init_85 : decode prog_1_method_1_code 85 = .ok (.dup, 1) := by decide +kernel
theorem d_MessageCoder_init_86 : decode prog_1_method_1_code 86 = .ok (.bipush 16, 2) := by decide +kernel
theorem d_MessageCoder_init_88 : decode prog_1_method_1_code 88 = .ok (.invokespecial 32, 3) := by decide +kernel
theorem d_MessageCoder_init_91 : decode prog_1_method_1_code 91 = .ok (.putfield 53, 3) := by decide +kernel
theorem d_MessageCoder_init_94 : decode prog_1_method_1_code 94 = .ok (.aload_n 0, 1) := by decide +kernel
theorem d_MessageCoder_init_95 : decode prog_1_method_1_code 95 = .ok (.bipush 17, 2) := by decide +kernel
theorem d_MessageCoder_init_97 : decode prog_1_method_1_code 97 = .ok (.newarray .int, 2) := by decide +kernel
theorem d_MessageCoder_init_99 : decode prog_1_method_1_code 99 = .ok (.putfield 56, 3) := by decide +kernel
theorem d_MessageCoder_init_102 : decode prog_1_method_1_code 102 = .ok (.aload_n 0, 1) := by decide +kernel
theorem d_MessageCoder_init_103 : decode prog_1_method_1_code 103 = .ok (.iconst (-1), 1) := by decide +kernel
theorem d_MessageCoder_init_104 : decode prog_1_method_1_code 104 = .ok (.putfield 60, 3) := by decide +kernel
theorem d_MessageCoder_init_107 : decode prog_1_method_1_code 107 = .ok (.aload_n 0, 1) := by decide +kernel
theorem d_MessageCoder_init_108 : decode prog_1_method_1_code 108 = .ok (.iconst (-1), 1) := by decide +kernel
theorem d_MessageCoder_init_109 : decode prog_1_method_1_code 109 = .ok (.putfield 64, 3) := by decide +kernel
theorem d_MessageCoder_init_112 : decode prog_1_method_1_code 112 = .ok (.iconst 0, 1) := by decide +kernel
theorem d_MessageCoder_init_113 : decode prog_1_method_1_code 113 = .ok (.istore_n 1, 1) := by decide +kernel
theorem d_MessageCoder_init_114 : decode prog_1_method_1_code 114 = .ok (.iload_n 1, 1) := by decide +kernel
theorem d_MessageCoder_init_115 : decode prog_1_method_1_code 115 = .ok (.bipush 9, 2) := by decide +kernel
theorem d_MessageCoder_init_117 : decode prog_1_method_1_code 117 = .ok (.if_icmp .ge 22, 3) := by decide +kernel
theorem d_MessageCoder_init_120 : decode prog_1_method_1_code 120 = .ok (.aload_n 0, 1) := by decide +kernel
theorem d_MessageCoder_init_121 : decode prog_1_method_1_code 121 = .ok (.getfield 19, 3) := by decide +kernel
theorem d_MessageCoder_init_124 : decode prog_1_method_1_code 124 = .ok (.iload_n 1, 1) := by decide +kernel
theorem d_MessageCoder_init_125 : decode prog_1_method_1_code 125 = .ok (.new 9, 3) := by decide +kernel
theorem d_MessageCoder_init_128 : decode prog_1_method_1_code 128 = .ok (.dup, 1) := by decide +kernel
theorem d_MessageCoder_init_129 : decode prog_1_method_1_code 129 = .ok (.invokespecial 11, 3) := by decide +kernel
theorem d_MessageCoder_init_132 : decode prog_1_method_1_code 132 = .ok (.aastore, 1) := by decide +kernel
theorem d_MessageCoder_init_133 : decode prog_1_method_1_code 133 = .ok (.iinc 1 1, 3) := by decide +kernel
theorem d_MessageCoder_init_136 : decode prog_1_method_1_code 136 = .ok (.goto (-22), 3) := by decide +kernel
theorem d_MessageCoder_init_139 : decode prog_1_method_1_code 139 = .ok (.return_, 1) := by decide +kernel
set_option maxHeartbeats 4000000 in
set_option maxRecDepth 20000 in
theorem c_MessageCoder_init {P : xP} {F : xF} {b : Nat} {cm : cmT} (b0 : F (b) = some (.inl (9, [.null, .null, .null, .null, .null, .null, .null, .null, .null, .int (nI 0), .int (nI 0), .int (nI 0), .int 0, .int 0])))  : xM P xy_MessageCoder_init [.ref b] F (b + 1) 565 4811 (fun r9 F9 z9 => r9 = none ∧ z9 = b + 566 ∧ xMC F9 (cm) (b) (mc0) ∧ (∀ a9 : Nat, (a9 < b ∨ b + 566 ≤ a9) → F9 a9 = F a9)) := by
  refine xM_v rfl (Nat.le_of_ble_eq_true rfl) (L0 := [some (.ref b), none]) rfl rfl fun Θ hC hin hret => ?_
  have hag : ∀ a9 : Nat, (a9 < b ∨ b + 566 ≤ a9) → F a9 = F a9 := fun a9 _ => rfl
  refine x_aload_n hC d_MessageCoder_init_0 rfl rfl ?_
  refine x_objInit hC ko_MessageCoder_3 rfl (by decide) (Nat.le_of_ble_eq_true rfl) d_MessageCoder_init_1 ?_
  refine x_aload_n hC d_MessageCoder_init_4 rfl rfl ?_
  refine x_new hC (fs := [.null, .null, .null, .null, .null, .int (nI 0), .int (nI 0), .int (nI 0), .int (nI 0)]) kn_MessageCoder_9 (by decide) d_MessageCoder_init_5 ?_
  generalize e1 : xup F (b + 1) (.inl (7, [.null, .null, .null, .null, .null, .int (nI 0), .int (nI 0), .int (nI 0), .int (nI 0)])) = F1
  have b0 : F1 (b) = some (.inl (9, [.null, .null, .null, .null, .null, .null, .null, .null, .null, .int (nI 0), .int (nI 0), .int (nI 0), .int 0, .int 0])) := by rw [← e1]; exact (xup_ne (by omega)).trans b0
  have hz1 : F1 (b + 1) = some (.inl (7, [.null, .null, .null, .null, .null, .int (nI 0), .int (nI 0), .int (nI 0), .int (nI 0)])) := by rw [← e1]; exact xup_eq
  have hag : ∀ a9 : Nat, (a9 < b ∨ b + 566 ≤ a9) → F1 a9 = F a9 := fun a9 q0 => by rw [← e1]; exact (xup_ne (by omega)).trans (hag a9 q0)
  refine x_dup hC d_MessageCoder_init_8 rfl ?_
  refine x_callI hC ki_MessageCoder_11 rfl (c_State_init (h0 := hz1)) (by decide) rfl rfl rfl (Nat.le_of_ble_eq_true rfl) (by decide) d_MessageCoder_init_9 (fun r9 F9 z9 hp9 => ?_)
  obtain ⟨rfl, h9c, j0, hag9⟩ := hp9
  rw [h9c]
  clear h9c z9
  generalize F9 = F2 at *
  have b0 : F2 (b) = some (.inl (9, [.null, .null, .null, .null, .null, .null, .null, .null, .null, .int (nI 0), .int (nI 0), .int (nI 0), .int 0, .int 0])) := (hag9 _ (by omega)).trans b0
  have hz1 : xSt F2 ((b + 1)) (aS0) := j0
  have hag : ∀ a9 : Nat, (a9 < b ∨ b + 566 ≤ a9) → F2 a9 = F a9 := fun a9 q0 => (hag9 a9 (by omega)).trans (hag a9 q0)
  have hg_9 := hag9
  clear hag9
  refine x_putF hC hin kk_MessageCoder_12 b0 (Nat.le_of_ble_eq_true rfl) rfl rfl d_MessageCoder_init_12 (fs1 := [.ref (b + 1), .null, .null, .null, .null, .null, .null, .null, .null, .int (nI 0), .int (nI 0), .int (nI 0), .int 0, .int 0]) rfl ?_
  generalize e3 : xup F2 (b) (.inl (9, [.ref (b + 1), .null, .null, .null, .null, .null, .null, .null, .null, .int (nI 0), .int (nI 0), .int (nI 0), .int 0, .int 0])) = F3
  have b0 : F3 (b) = some (.inl (9, [.ref (b + 1), .null, .null, .null, .null, .null, .null, .null, .null, .int (nI 0), .int (nI 0), .int (nI 0), .int 0, .int 0])) := by rw [← e3]; exact xup_eq
  have hz1 : xSt F3 ((b + 1)) (aS0) := xSt_fr hz1 (fun a9 q1 q2 => by rw [← e3]; exact xup_ne (by omega))
  have hag : ∀ a9 : Nat, (a9 < b ∨ b + 566 ≤ a9) → F3 a9 = F a9 := fun a9 q0 => by rw [← e3]; exact (xup_ne (by omega)).trans (hag a9 q0)
  refine x_aload_n hC d_MessageCoder_init_15 rfl rfl ?_
  refine x_new hC (fs := [.null, .null, .null, .null, .null, .int (nI 0), .int (nI 0), .int (nI 0), .int (nI 0)]) kn_MessageCoder_9 (by decide) d_MessageCoder_init_16 ?_
  generalize e4 : xup F3 (b + 50) (.inl (7, [.null, .null, .null, .null, .null, .int (nI 0), .int (nI 0), .int (nI 0), .int (nI 0)])) = F4
  have b0 : F4 (b) = some (.inl (9, [.ref (b + 1), .null, .null, .null, .null, .null, .null, .null, .null, .int (nI 0), .int (nI 0), .int (nI 0), .int 0, .int 0])) := by rw [← e4]; exact (xup_ne (by omega)).trans b0
  have hz1 : xSt F4 ((b + 1)) (aS0) := xSt_fr hz1 (fun a9 q1 q2 => by rw [← e4]; exact xup_ne (by omega))
  have hz2 : F4 (b + 50) = some (.inl (7, [.null, .null, .null, .null, .null, .int (nI 0), .int (nI 0), .int (nI 0), .int (nI 0)])) := by rw [← e4]; exact xup_eq
  have hag : ∀ a9 : Nat, (a9 < b ∨ b + 566 ≤ a9) → F4 a9 = F a9 := fun a9 q0 => by rw [← e4]; exact (xup_ne (by omega)).trans (hag a9 q0)
  refine x_dup hC d_MessageCoder_init_19 rfl ?_
  refine x_callI hC ki_MessageCoder_11 rfl (c_State_init (h0 := hz2)) (by decide) rfl rfl rfl (Nat.le_of_ble_eq_true rfl) (by decide) d_MessageCoder_init_20 (fun r9 F9 z9 hp9 => ?_)
  obtain ⟨rfl, h9c, j0, hag9⟩ := hp9
  rw [h9c]
  clear h9c z9
  generalize F9 = F5 at *
  have b0 : F5 (b) = some (.inl (9, [.ref (b + 1), .null, .null, .null, .null, .null, .null, .null, .null, .int (nI 0), .int (nI 0), .int (nI 0), .int 0, .int 0])) := (hag9 _ (by omega)).trans b0
  have hz1 : xSt F5 ((b + 1)) (aS0) := xSt_fr hz1 (fun a9 q1 q2 => hag9 a9 (by omega))
  have hz2 : xSt F5 ((b + 50)) (aS0) := j0
  have hag : ∀ a9 : Nat, (a9 < b ∨ b + 566 ≤ a9) → F5 a9 = F a9 := fun a9 q0 => (hag9 a9 (by omega)).trans (hag a9 q0)
  have hg_20 := hag9
  clear hag9
  refine x_putF hC hin kk_MessageCoder_16 b0 (Nat.le_of_ble_eq_true rfl) rfl rfl d_MessageCoder_init_23 (fs1 := [.ref (b + 1), .ref (b + 50), .null, .null, .null, .null, .null, .null, .null, .int (nI 0), .int (nI 0), .int (nI 0), .int 0, .int 0]) rfl ?_
  generalize e6 : xup F5 (b) (.inl (9, [.ref (b + 1), .ref (b + 50), .null, .null, .null, .null, .null, .null, .null, .int (nI 0), .int (nI 0), .int (nI 0), .int 0, .int 0])) = F6
  have b0 : F6 (b) = some (.inl (9, [.ref (b + 1), .ref (b + 50), .null, .null, .null, .null, .null, .null, .null, .int (nI 0), .int (nI 0), .int (nI 0), .int 0, .int 0])) := by rw [← e6]; exact xup_eq
  have hz1 : xSt F6 ((b + 1)) (aS0) := xSt_fr hz1 (fun a9 q1 q2 => by rw [← e6]; exact xup_ne (by omega))
  have hz2 : xSt F6 ((b + 50)) (aS0) := xSt_fr hz2 (fun a9 q1 q2 => by rw [← e6]; exact xup_ne (by omega))
  have hag : ∀ a9 : Nat, (a9 < b ∨ b + 566 ≤ a9) → F6 a9 = F a9 := fun a9 q0 => by rw [← e6]; exact (xup_ne (by omega)).trans (hag a9 q0)
  refine x_aload_n hC d_MessageCoder_init_26 rfl rfl ?_
  refine x_bipush hC d_MessageCoder_init_27 (v := nI 9) (by decide) ?_
  refine x_anewa hC (t := 4) rfl (by decide) (x_in (x_of (xtb_1 (List.mem_of_getElem? (i := 46) (by decide +kernel)))) (by decide +kernel)) (x_inN (xtb_1 (List.mem_of_getElem? (i := 239) (by decide +kernel))) (by decide +kernel)) rfl (by omega) (by decide) (by decide) d_MessageCoder_init_29 ?_
  generalize e7 : xup F6 (b + 99) (.inr (4, 9, (fun _ => .null))) = F7
  have b0 : F7 (b) = some (.inl (9, [.ref (b + 1), .ref (b + 50), .null, .null, .null, .null, .null, .null, .null, .int (nI 0), .int (nI 0), .int (nI 0), .int 0, .int 0])) := by rw [← e7]; exact (xup_ne (by omega)).trans b0
  have hz1 : xSt F7 ((b + 1)) (aS0) := xSt_fr hz1 (fun a9 q1 q2 => by rw [← e7]; exact xup_ne (by omega))
  have hz2 : xSt F7 ((b + 50)) (aS0) := xSt_fr hz2 (fun a9 q1 q2 => by rw [← e7]; exact xup_ne (by omega))
  have hz3 : F7 (b + 99) = some (.inr (4, 9, (fun _ => .null))) := by rw [← e7]; exact xup_eq
  have hag : ∀ a9 : Nat, (a9 < b ∨ b + 566 ≤ a9) → F7 a9 = F a9 := fun a9 q0 => by rw [← e7]; exact (xup_ne (by omega)).trans (hag a9 q0)
  refine x_putF hC hin kk_MessageCoder_19 b0 (Nat.le_of_ble_eq_true rfl) rfl rfl d_MessageCoder_init_32 (fs1 := [.ref (b + 1), .ref (b + 50), .ref (b + 99), .null, .null, .null, .null, .null, .null, .int (nI 0), .int (nI 0), .int (nI 0), .int 0, .int 0]) rfl ?_
  generalize e8 : xup F7 (b) (.inl (9, [.ref (b + 1), .ref (b + 50), .ref (b + 99), .null, .null, .null, .null, .null, .null, .int (nI 0), .int (nI 0), .int (nI 0), .int 0, .int 0])) = F8
  have b0 : F8 (b) = some (.inl (9, [.ref (b + 1), .ref (b + 50), .ref (b + 99), .null, .null, .null, .null, .null, .null, .int (nI 0), .int (nI 0), .int (nI 0), .int 0, .int 0])) := by rw [← e8]; exact xup_eq
  have hz1 : xSt F8 ((b + 1)) (aS0) := xSt_fr hz1 (fun a9 q1 q2 => by rw [← e8]; exact xup_ne (by omega))
  have hz2 : xSt F8 ((b + 50)) (aS0) := xSt_fr hz2 (fun a9 q1 q2 => by rw [← e8]; exact xup_ne (by omega))
  have hz3 : F8 (b + 99) = some (.inr (4, 9, (fun _ => .null))) := by rw [← e8]; exact (xup_ne (by omega)).trans hz3
  have hag : ∀ a9 : Nat, (a9 < b ∨ b + 566 ≤ a9) → F8 a9 = F a9 := fun a9 q0 => by rw [← e8]; exact (xup_ne (by omega)).trans (hag a9 q0)
  refine x_aload_n hC d_MessageCoder_init_35 rfl rfl ?_
  refine x_new hC (fs := [.null, .null, .null, .null, .null, .int (nI 0), .int (nI 0), .int (nI 0), .int (nI 0), .int (nI 0), .int (nI 0)]) kn_MessageCoder_23 (by decide) d_MessageCoder_init_36 ?_
  generalize e9 : xup F8 (b + 100) (.inl (4, [.null, .null, .null, .null, .null, .int (nI 0), .int (nI 0), .int (nI 0), .int (nI 0), .int (nI 0), .int (nI 0)])) = F9
  have b0 : F9 (b) = some (.inl (9, [.ref (b + 1), .ref (b + 50), .ref (b + 99), .null, .null, .null, .null, .null, .null, .int (nI 0), .int (nI 0), .int (nI 0), .int 0, .int 0])) := by rw [← e9]; exact (xup_ne (by omega)).trans b0
  have hz1 : xSt F9 ((b + 1)) (aS0) := xSt_fr hz1 (fun a9 q1 q2 => by rw [← e9]; exact xup_ne (by omega))
  have hz2 : xSt F9 ((b + 50)) (aS0) := xSt_fr hz2 (fun a9 q1 q2 => by rw [← e9]; exact xup_ne (by omega))
  have hz3 : F9 (b + 99) = some (.inr (4, 9, (fun _ => .null))) := by rw [← e9]; exact (xup_ne (by omega)).trans hz3
  have hz4 : F9 (b + 100) = some (.inl (4, [.null, .null, .null, .null, .null, .int (nI 0), .int (nI 0), .int (nI 0), .int (nI 0), .int (nI 0), .int (nI 0)])) := by rw [← e9]; exact xup_eq
  have hag : ∀ a9 : Nat, (a9 < b ∨ b + 566 ≤ a9) → F9 a9 = F a9 := fun a9 q0 => by rw [← e9]; exact (xup_ne (by omega)).trans (hag a9 q0)
  refine x_dup hC d_MessageCoder_init_39 rfl ?_
  refine x_callI hC ki_MessageCoder_25 rfl (c_Program_init (h0 := hz4) (ce := cm.2.1)) (by decide) rfl rfl rfl (Nat.le_of_ble_eq_true rfl) (by decide) d_MessageCoder_init_40 (fun r9 F9 z9 hp9 => ?_)
  obtain ⟨rfl, h9c, j0, j1, j2, hag9⟩ := hp9
  rw [h9c]
  clear h9c z9
  generalize F9 = F10 at *
  have b0 : F10 (b) = some (.inl (9, [.ref (b + 1), .ref (b + 50), .ref (b + 99), .null, .null, .null, .null, .null, .null, .int (nI 0), .int (nI 0), .int (nI 0), .int 0, .int 0])) := (hag9 _ (by omega)).trans b0
  have hz1 : xSt F10 ((b + 1)) (aS0) := xSt_fr hz1 (fun a9 q1 q2 => hag9 a9 (by omega))
  have hz2 : xSt F10 ((b + 50)) (aS0) := xSt_fr hz2 (fun a9 q1 q2 => hag9 a9 (by omega))
  have hz3 : F10 (b + 99) = some (.inr (4, 9, (fun _ => .null))) := (hag9 _ (by omega)).trans hz3
  have hz4 : F10 (b + 100) = some (.inl (4, [.ref ((b + 100) + 1), .ref ((b + 100) + 3), .ref ((b + 100) + 4), .ref ((b + 100) + 5), .ref ((b + 100) + 6), .int (nI 0), .int (nI 0), .int (nI 0), .int (nI 0), .int (nI 0), .int (nI 0)])) := j0
  have hnht_40 : xTx F10 ((b + 100) + 1) (60) (0) ((fun _ => 0)) := j1
  have hnhK_40 : xPk F10 ((b + 100)) ((cm.2.1)) (K00) := j2
  have hag : ∀ a9 : Nat, (a9 < b ∨ b + 566 ≤ a9) → F10 a9 = F a9 := fun a9 q0 => (hag9 a9 (by omega)).trans (hag a9 q0)
  have hg_40 := hag9
  clear hag9
  refine x_putF hC hin kk_MessageCoder_26 b0 (Nat.le_of_ble_eq_true rfl) rfl rfl d_MessageCoder_init_43 (fs1 := [.ref (b + 1), .ref (b + 50), .ref (b + 99), .ref (b + 100), .null, .null, .null, .null, .null, .int (nI 0), .int (nI 0), .int (nI 0), .int 0, .int 0]) rfl ?_
  generalize e11 : xup F10 (b) (.inl (9, [.ref (b + 1), .ref (b + 50), .ref (b + 99), .ref (b + 100), .null, .null, .null, .null, .null, .int (nI 0), .int (nI 0), .int (nI 0), .int 0, .int 0])) = F11
  have b0 : F11 (b) = some (.inl (9, [.ref (b + 1), .ref (b + 50), .ref (b + 99), .ref (b + 100), .null, .null, .null, .null, .null, .int (nI 0), .int (nI 0), .int (nI 0), .int 0, .int 0])) := by rw [← e11]; exact xup_eq
  have hz1 : xSt F11 ((b + 1)) (aS0) := xSt_fr hz1 (fun a9 q1 q2 => by rw [← e11]; exact xup_ne (by omega))
  have hz2 : xSt F11 ((b + 50)) (aS0) := xSt_fr hz2 (fun a9 q1 q2 => by rw [← e11]; exact xup_ne (by omega))
  have hz3 : F11 (b + 99) = some (.inr (4, 9, (fun _ => .null))) := by rw [← e11]; exact (xup_ne (by omega)).trans hz3
  have hz4 : F11 (b + 100) = some (.inl (4, [.ref ((b + 100) + 1), .ref ((b + 100) + 3), .ref ((b + 100) + 4), .ref ((b + 100) + 5), .ref ((b + 100) + 6), .int (nI 0), .int (nI 0), .int (nI 0), .int (nI 0), .int (nI 0), .int (nI 0)])) := by rw [← e11]; exact (xup_ne (by omega)).trans hz4
  have hnht_40 : xTx F11 ((b + 100) + 1) (60) (0) ((fun _ => 0)) := xTx_fr hnht_40 (fun a9 q1 q2 => by rw [← e11]; exact xup_ne (by omega))
  have hnhK_40 : xPk F11 ((b + 100)) ((cm.2.1)) (K00) := xPk_fr hnhK_40 (fun a9 q1 q2 => by rw [← e11]; exact xup_ne (by omega))
  have hag : ∀ a9 : Nat, (a9 < b ∨ b + 566 ≤ a9) → F11 a9 = F a9 := fun a9 q0 => by rw [← e11]; exact (xup_ne (by omega)).trans (hag a9 q0)
  refine x_aload_n hC d_MessageCoder_init_46 rfl rfl ?_
  refine x_new hC (fs := [.null, .int (nI 0)]) kn_MessageCoder_30 (by decide) d_MessageCoder_init_47 ?_
  generalize e12 : xup F11 (b + 107) (.inl (8, [.null, .int (nI 0)])) = F12
  have b0 : F12 (b) = some (.inl (9, [.ref (b + 1), .ref (b + 50), .ref (b + 99), .ref (b + 100), .null, .null, .null, .null, .null, .int (nI 0), .int (nI 0), .int (nI 0), .int 0, .int 0])) := by rw [← e12]; exact (xup_ne (by omega)).trans b0
  have hz1 : xSt F12 ((b + 1)) (aS0) := xSt_fr hz1 (fun a9 q1 q2 => by rw [← e12]; exact xup_ne (by omega))
  have hz2 : xSt F12 ((b + 50)) (aS0) := xSt_fr hz2 (fun a9 q1 q2 => by rw [← e12]; exact xup_ne (by omega))
  have hz3 : F12 (b + 99) = some (.inr (4, 9, (fun _ => .null))) := by rw [← e12]; exact (xup_ne (by omega)).trans hz3
  have hz4 : F12 (b + 100) = some (.inl (4, [.ref ((b + 100) + 1), .ref ((b + 100) + 3), .ref ((b + 100) + 4), .ref ((b + 100) + 5), .ref ((b + 100) + 6), .int (nI 0), .int (nI 0), .int (nI 0), .int (nI 0), .int (nI 0), .int (nI 0)])) := by rw [← e12]; exact (xup_ne (by omega)).trans hz4
  have hnht_40 : xTx F12 ((b + 100) + 1) (60) (0) ((fun _ => 0)) := xTx_fr hnht_40 (fun a9 q1 q2 => by rw [← e12]; exact xup_ne (by omega))
  have hnhK_40 : xPk F12 ((b + 100)) ((cm.2.1)) (K00) := xPk_fr hnhK_40 (fun a9 q1 q2 => by rw [← e12]; exact xup_ne (by omega))
  have hz7 : F12 (b + 107) = some (.inl (8, [.null, .int (nI 0)])) := by rw [← e12]; exact xup_eq
  have hag : ∀ a9 : Nat, (a9 < b ∨ b + 566 ≤ a9) → F12 a9 = F a9 := fun a9 q0 => by rw [← e12]; exact (xup_ne (by omega)).trans (hag a9 q0)
  refine x_dup hC d_MessageCoder_init_50 rfl ?_
  refine x_bipush hC d_MessageCoder_init_51 (v := nI 32) (by decide) ?_
  refine x_callI hC ki_MessageCoder_32 rfl (c_Text_init32 (h0 := hz7)) (by decide) rfl rfl rfl (Nat.le_of_ble_eq_true rfl) (by decide) d_MessageCoder_init_53 (fun r9 F9 z9 hp9 => ?_)
  obtain ⟨rfl, h9c, j0, hag9⟩ := hp9
  rw [h9c]
  clear h9c z9
  generalize F9 = F13 at *
  have b0 : F13 (b) = some (.inl (9, [.ref (b + 1), .ref (b + 50), .ref (b + 99), .ref (b + 100), .null, .null, .null, .null, .null, .int (nI 0), .int (nI 0), .int (nI 0), .int 0, .int 0])) := (hag9 _ (by omega)).trans b0
  have hz1 : xSt F13 ((b + 1)) (aS0) := xSt_fr hz1 (fun a9 q1 q2 => hag9 a9 (by omega))
  have hz2 : xSt F13 ((b + 50)) (aS0) := xSt_fr hz2 (fun a9 q1 q2 => hag9 a9 (by omega))
  have hz3 : F13 (b + 99) = some (.inr (4, 9, (fun _ => .null))) := (hag9 _ (by omega)).trans hz3
  have hz4 : F13 (b + 100) = some (.inl (4, [.ref ((b + 100) + 1), .ref ((b + 100) + 3), .ref ((b + 100) + 4), .ref ((b + 100) + 5), .ref ((b + 100) + 6), .int (nI 0), .int (nI 0), .int (nI 0), .int (nI 0), .int (nI 0), .int (nI 0)])) := (hag9 _ (by omega)).trans hz4
  have hnht_40 : xTx F13 ((b + 100) + 1) (60) (0) ((fun _ => 0)) := xTx_fr hnht_40 (fun a9 q1 q2 => hag9 a9 (by omega))
  have hnhK_40 : xPk F13 ((b + 100)) ((cm.2.1)) (K00) := xPk_fr hnhK_40 (fun a9 q1 q2 => hag9 a9 (by omega))
  have hz7 : xTx F13 ((b + 107)) (32) (0) ((fun _ => 0)) := j0
  have hag : ∀ a9 : Nat, (a9 < b ∨ b + 566 ≤ a9) → F13 a9 = F a9 := fun a9 q0 => (hag9 a9 (by omega)).trans (hag a9 q0)
  have hg_53 := hag9
  clear hag9
  refine x_putF hC hin kk_MessageCoder_35 b0 (Nat.le_of_ble_eq_true rfl) rfl rfl d_MessageCoder_init_56 (fs1 := [.ref (b + 1), .ref (b + 50), .ref (b + 99), .ref (b + 100), .ref (b + 107), .null, .null, .null, .null, .int (nI 0), .int (nI 0), .int (nI 0), .int 0, .int 0]) rfl ?_
  generalize e14 : xup F13 (b) (.inl (9, [.ref (b + 1), .ref (b + 50), .ref (b + 99), .ref (b + 100), .ref (b + 107), .null, .null, .null, .null, .int (nI 0), .int (nI 0), .int (nI 0), .int 0, .int 0])) = F14
  have b0 : F14 (b) = some (.inl (9, [.ref (b + 1), .ref (b + 50), .ref (b + 99), .ref (b + 100), .ref (b + 107), .null, .null, .null, .null, .int (nI 0), .int (nI 0), .int (nI 0), .int 0, .int 0])) := by rw [← e14]; exact xup_eq
  have hz1 : xSt F14 ((b + 1)) (aS0) := xSt_fr hz1 (fun a9 q1 q2 => by rw [← e14]; exact xup_ne (by omega))
  have hz2 : xSt F14 ((b + 50)) (aS0) := xSt_fr hz2 (fun a9 q1 q2 => by rw [← e14]; exact xup_ne (by omega))
  have hz3 : F14 (b + 99) = some (.inr (4, 9, (fun _ => .null))) := by rw [← e14]; exact (xup_ne (by omega)).trans hz3
  have hz4 : F14 (b + 100) = some (.inl (4, [.ref ((b + 100) + 1), .ref ((b + 100) + 3), .ref ((b + 100) + 4), .ref ((b + 100) + 5), .ref ((b + 100) + 6), .int (nI 0), .int (nI 0), .int (nI 0), .int (nI 0), .int (nI 0), .int (nI 0)])) := by rw [← e14]; exact (xup_ne (by omega)).trans hz4
  have hnht_40 : xTx F14 ((b + 100) + 1) (60) (0) ((fun _ => 0)) := xTx_fr hnht_40 (fun a9 q1 q2 => by rw [← e14]; exact xup_ne (by omega))
  have hnhK_40 : xPk F14 ((b + 100)) ((cm.2.1)) (K00) := xPk_fr hnhK_40 (fun a9 q1 q2 => by rw [← e14]; exact xup_ne (by omega))
  have hz7 : xTx F14 ((b + 107)) (32) (0) ((fun _ => 0)) := xTx_fr hz7 (fun a9 q1 q2 => by rw [← e14]; exact xup_ne (by omega))
  have hag : ∀ a9 : Nat, (a9 < b ∨ b + 566 ≤ a9) → F14 a9 = F a9 := fun a9 q0 => by rw [← e14]; exact (xup_ne (by omega)).trans (hag a9 q0)
  refine x_aload_n hC d_MessageCoder_init_59 rfl rfl ?_
  refine x_new hC (fs := [.null, .int (nI 0)]) kn_MessageCoder_39 (by decide) d_MessageCoder_init_60 ?_
  generalize e15 : xup F14 (b + 109) (.inl (0, [.null, .int (nI 0)])) = F15
  have b0 : F15 (b) = some (.inl (9, [.ref (b + 1), .ref (b + 50), .ref (b + 99), .ref (b + 100), .ref (b + 107), .null, .null, .null, .null, .int (nI 0), .int (nI 0), .int (nI 0), .int 0, .int 0])) := by rw [← e15]; exact (xup_ne (by omega)).trans b0
  have hz1 : xSt F15 ((b + 1)) (aS0) := xSt_fr hz1 (fun a9 q1 q2 => by rw [← e15]; exact xup_ne (by omega))
  have hz2 : xSt F15 ((b + 50)) (aS0) := xSt_fr hz2 (fun a9 q1 q2 => by rw [← e15]; exact xup_ne (by omega))
  have hz3 : F15 (b + 99) = some (.inr (4, 9, (fun _ => .null))) := by rw [← e15]; exact (xup_ne (by omega)).trans hz3
  have hz4 : F15 (b + 100) = some (.inl (4, [.ref ((b + 100) + 1), .ref ((b + 100) + 3), .ref ((b + 100) + 4), .ref ((b + 100) + 5), .ref ((b + 100) + 6), .int (nI 0), .int (nI 0), .int (nI 0), .int (nI 0), .int (nI 0), .int (nI 0)])) := by rw [← e15]; exact (xup_ne (by omega)).trans hz4
  have hnht_40 : xTx F15 ((b + 100) + 1) (60) (0) ((fun _ => 0)) := xTx_fr hnht_40 (fun a9 q1 q2 => by rw [← e15]; exact xup_ne (by omega))
  have hnhK_40 : xPk F15 ((b + 100)) ((cm.2.1)) (K00) := xPk_fr hnhK_40 (fun a9 q1 q2 => by rw [← e15]; exact xup_ne (by omega))
  have hz7 : xTx F15 ((b + 107)) (32) (0) ((fun _ => 0)) := xTx_fr hz7 (fun a9 q1 q2 => by rw [← e15]; exact xup_ne (by omega))
  have hz8 : F15 (b + 109) = some (.inl (0, [.null, .int (nI 0)])) := by rw [← e15]; exact xup_eq
  have hag : ∀ a9 : Nat, (a9 < b ∨ b + 566 ≤ a9) → F15 a9 = F a9 := fun a9 q0 => by rw [← e15]; exact (xup_ne (by omega)).trans (hag a9 q0)
  refine x_dup hC d_MessageCoder_init_63 rfl ?_
  refine x_callI hC ki_MessageCoder_41 rfl (c_Bits_init (h0 := hz8)) (by decide) rfl rfl rfl (Nat.le_of_ble_eq_true rfl) (by decide) d_MessageCoder_init_64 (fun r9 F9 z9 hp9 => ?_)
  obtain ⟨rfl, h9c, j0, hag9⟩ := hp9
  rw [h9c]
  clear h9c z9
  generalize F9 = F16 at *
  have b0 : F16 (b) = some (.inl (9, [.ref (b + 1), .ref (b + 50), .ref (b + 99), .ref (b + 100), .ref (b + 107), .null, .null, .null, .null, .int (nI 0), .int (nI 0), .int (nI 0), .int 0, .int 0])) := (hag9 _ (by omega)).trans b0
  have hz1 : xSt F16 ((b + 1)) (aS0) := xSt_fr hz1 (fun a9 q1 q2 => hag9 a9 (by omega))
  have hz2 : xSt F16 ((b + 50)) (aS0) := xSt_fr hz2 (fun a9 q1 q2 => hag9 a9 (by omega))
  have hz3 : F16 (b + 99) = some (.inr (4, 9, (fun _ => .null))) := (hag9 _ (by omega)).trans hz3
  have hz4 : F16 (b + 100) = some (.inl (4, [.ref ((b + 100) + 1), .ref ((b + 100) + 3), .ref ((b + 100) + 4), .ref ((b + 100) + 5), .ref ((b + 100) + 6), .int (nI 0), .int (nI 0), .int (nI 0), .int (nI 0), .int (nI 0), .int (nI 0)])) := (hag9 _ (by omega)).trans hz4
  have hnht_40 : xTx F16 ((b + 100) + 1) (60) (0) ((fun _ => 0)) := xTx_fr hnht_40 (fun a9 q1 q2 => hag9 a9 (by omega))
  have hnhK_40 : xPk F16 ((b + 100)) ((cm.2.1)) (K00) := xPk_fr hnhK_40 (fun a9 q1 q2 => hag9 a9 (by omega))
  have hz7 : xTx F16 ((b + 107)) (32) (0) ((fun _ => 0)) := xTx_fr hz7 (fun a9 q1 q2 => hag9 a9 (by omega))
  have hz8 : xBt F16 ((b + 109)) (0) ((fun _ => 0)) := j0
  have hag : ∀ a9 : Nat, (a9 < b ∨ b + 566 ≤ a9) → F16 a9 = F a9 := fun a9 q0 => (hag9 a9 (by omega)).trans (hag a9 q0)
  have hg_64 := hag9
  clear hag9
  refine x_putF hC hin kk_MessageCoder_42 b0 (Nat.le_of_ble_eq_true rfl) rfl rfl d_MessageCoder_init_67 (fs1 := [.ref (b + 1), .ref (b + 50), .ref (b + 99), .ref (b + 100), .ref (b + 107), .ref (b + 109), .null, .null, .null, .int (nI 0), .int (nI 0), .int (nI 0), .int 0, .int 0]) rfl ?_
  generalize e17 : xup F16 (b) (.inl (9, [.ref (b + 1), .ref (b + 50), .ref (b + 99), .ref (b + 100), .ref (b + 107), .ref (b + 109), .null, .null, .null, .int (nI 0), .int (nI 0), .int (nI 0), .int 0, .int 0])) = F17
  have b0 : F17 (b) = some (.inl (9, [.ref (b + 1), .ref (b + 50), .ref (b + 99), .ref (b + 100), .ref (b + 107), .ref (b + 109), .null, .null, .null, .int (nI 0), .int (nI 0), .int (nI 0), .int 0, .int 0])) := by rw [← e17]; exact xup_eq
  have hz1 : xSt F17 ((b + 1)) (aS0) := xSt_fr hz1 (fun a9 q1 q2 => by rw [← e17]; exact xup_ne (by omega))
  have hz2 : xSt F17 ((b + 50)) (aS0) := xSt_fr hz2 (fun a9 q1 q2 => by rw [← e17]; exact xup_ne (by omega))
  have hz3 : F17 (b + 99) = some (.inr (4, 9, (fun _ => .null))) := by rw [← e17]; exact (xup_ne (by omega)).trans hz3
  have hz4 : F17 (b + 100) = some (.inl (4, [.ref ((b + 100) + 1), .ref ((b + 100) + 3), .ref ((b + 100) + 4), .ref ((b + 100) + 5), .ref ((b + 100) + 6), .int (nI 0), .int (nI 0), .int (nI 0), .int (nI 0), .int (nI 0), .int (nI 0)])) := by rw [← e17]; exact (xup_ne (by omega)).trans hz4
  have hnht_40 : xTx F17 ((b + 100) + 1) (60) (0) ((fun _ => 0)) := xTx_fr hnht_40 (fun a9 q1 q2 => by rw [← e17]; exact xup_ne (by omega))
  have hnhK_40 : xPk F17 ((b + 100)) ((cm.2.1)) (K00) := xPk_fr hnhK_40 (fun a9 q1 q2 => by rw [← e17]; exact xup_ne (by omega))
  have hz7 : xTx F17 ((b + 107)) (32) (0) ((fun _ => 0)) := xTx_fr hz7 (fun a9 q1 q2 => by rw [← e17]; exact xup_ne (by omega))
  have hz8 : xBt F17 ((b + 109)) (0) ((fun _ => 0)) := xBt_fr hz8 (fun a9 q1 q2 => by rw [← e17]; exact xup_ne (by omega))
  have hag : ∀ a9 : Nat, (a9 < b ∨ b + 566 ≤ a9) → F17 a9 = F a9 := fun a9 q0 => by rw [← e17]; exact (xup_ne (by omega)).trans (hag a9 q0)
  refine x_aload_n hC d_MessageCoder_init_70 rfl rfl ?_
  refine x_new hC (fs := [.null, .null]) kn_MessageCoder_46 (by decide) d_MessageCoder_init_71 ?_
  generalize e18 : xup F17 (b + 111) (.inl (6, [.null, .null])) = F18
  have b0 : F18 (b) = some (.inl (9, [.ref (b + 1), .ref (b + 50), .ref (b + 99), .ref (b + 100), .ref (b + 107), .ref (b + 109), .null, .null, .null, .int (nI 0), .int (nI 0), .int (nI 0), .int 0, .int 0])) := by rw [← e18]; exact (xup_ne (by omega)).trans b0
  have hz1 : xSt F18 ((b + 1)) (aS0) := xSt_fr hz1 (fun a9 q1 q2 => by rw [← e18]; exact xup_ne (by omega))
  have hz2 : xSt F18 ((b + 50)) (aS0) := xSt_fr hz2 (fun a9 q1 q2 => by rw [← e18]; exact xup_ne (by omega))
  have hz3 : F18 (b + 99) = some (.inr (4, 9, (fun _ => .null))) := by rw [← e18]; exact (xup_ne (by omega)).trans hz3
  have hz4 : F18 (b + 100) = some (.inl (4, [.ref ((b + 100) + 1), .ref ((b + 100) + 3), .ref ((b + 100) + 4), .ref ((b + 100) + 5), .ref ((b + 100) + 6), .int (nI 0), .int (nI 0), .int (nI 0), .int (nI 0), .int (nI 0), .int (nI 0)])) := by rw [← e18]; exact (xup_ne (by omega)).trans hz4
  have hnht_40 : xTx F18 ((b + 100) + 1) (60) (0) ((fun _ => 0)) := xTx_fr hnht_40 (fun a9 q1 q2 => by rw [← e18]; exact xup_ne (by omega))
  have hnhK_40 : xPk F18 ((b + 100)) ((cm.2.1)) (K00) := xPk_fr hnhK_40 (fun a9 q1 q2 => by rw [← e18]; exact xup_ne (by omega))
  have hz7 : xTx F18 ((b + 107)) (32) (0) ((fun _ => 0)) := xTx_fr hz7 (fun a9 q1 q2 => by rw [← e18]; exact xup_ne (by omega))
  have hz8 : xBt F18 ((b + 109)) (0) ((fun _ => 0)) := xBt_fr hz8 (fun a9 q1 q2 => by rw [← e18]; exact xup_ne (by omega))
  have hz9 : F18 (b + 111) = some (.inl (6, [.null, .null])) := by rw [← e18]; exact xup_eq
  have hag : ∀ a9 : Nat, (a9 < b ∨ b + 566 ≤ a9) → F18 a9 = F a9 := fun a9 q0 => by rw [← e18]; exact (xup_ne (by omega)).trans (hag a9 q0)
  refine x_dup hC d_MessageCoder_init_74 rfl ?_
  refine x_callI hC ki_MessageCoder_48 rfl (c_Ranges_init (h0 := hz9)) (by decide) rfl rfl rfl (Nat.le_of_ble_eq_true rfl) (by decide) d_MessageCoder_init_75 (fun r9 F9 z9 hp9 => ?_)
  obtain ⟨rfl, h9c, j0, hag9⟩ := hp9
  rw [h9c]
  clear h9c z9
  generalize F9 = F19 at *
  have b0 : F19 (b) = some (.inl (9, [.ref (b + 1), .ref (b + 50), .ref (b + 99), .ref (b + 100), .ref (b + 107), .ref (b + 109), .null, .null, .null, .int (nI 0), .int (nI 0), .int (nI 0), .int 0, .int 0])) := (hag9 _ (by omega)).trans b0
  have hz1 : xSt F19 ((b + 1)) (aS0) := xSt_fr hz1 (fun a9 q1 q2 => hag9 a9 (by omega))
  have hz2 : xSt F19 ((b + 50)) (aS0) := xSt_fr hz2 (fun a9 q1 q2 => hag9 a9 (by omega))
  have hz3 : F19 (b + 99) = some (.inr (4, 9, (fun _ => .null))) := (hag9 _ (by omega)).trans hz3
  have hz4 : F19 (b + 100) = some (.inl (4, [.ref ((b + 100) + 1), .ref ((b + 100) + 3), .ref ((b + 100) + 4), .ref ((b + 100) + 5), .ref ((b + 100) + 6), .int (nI 0), .int (nI 0), .int (nI 0), .int (nI 0), .int (nI 0), .int (nI 0)])) := (hag9 _ (by omega)).trans hz4
  have hnht_40 : xTx F19 ((b + 100) + 1) (60) (0) ((fun _ => 0)) := xTx_fr hnht_40 (fun a9 q1 q2 => hag9 a9 (by omega))
  have hnhK_40 : xPk F19 ((b + 100)) ((cm.2.1)) (K00) := xPk_fr hnhK_40 (fun a9 q1 q2 => hag9 a9 (by omega))
  have hz7 : xTx F19 ((b + 107)) (32) (0) ((fun _ => 0)) := xTx_fr hz7 (fun a9 q1 q2 => hag9 a9 (by omega))
  have hz8 : xBt F19 ((b + 109)) (0) ((fun _ => 0)) := xBt_fr hz8 (fun a9 q1 q2 => hag9 a9 (by omega))
  have hz9 : xRg F19 ((b + 111)) := j0
  have hag : ∀ a9 : Nat, (a9 < b ∨ b + 566 ≤ a9) → F19 a9 = F a9 := fun a9 q0 => (hag9 a9 (by omega)).trans (hag a9 q0)
  have hg_75 := hag9
  clear hag9
  refine x_putF hC hin kk_MessageCoder_49 b0 (Nat.le_of_ble_eq_true rfl) rfl rfl d_MessageCoder_init_78 (fs1 := [.ref (b + 1), .ref (b + 50), .ref (b + 99), .ref (b + 100), .ref (b + 107), .ref (b + 109), .ref (b + 111), .null, .null, .int (nI 0), .int (nI 0), .int (nI 0), .int 0, .int 0]) rfl ?_
  generalize e20 : xup F19 (b) (.inl (9, [.ref (b + 1), .ref (b + 50), .ref (b + 99), .ref (b + 100), .ref (b + 107), .ref (b + 109), .ref (b + 111), .null, .null, .int (nI 0), .int (nI 0), .int (nI 0), .int 0, .int 0])) = F20
  have b0 : F20 (b) = some (.inl (9, [.ref (b + 1), .ref (b + 50), .ref (b + 99), .ref (b + 100), .ref (b + 107), .ref (b + 109), .ref (b + 111), .null, .null, .int (nI 0), .int (nI 0), .int (nI 0), .int 0, .int 0])) := by rw [← e20]; exact xup_eq
  have hz1 : xSt F20 ((b + 1)) (aS0) := xSt_fr hz1 (fun a9 q1 q2 => by rw [← e20]; exact xup_ne (by omega))
  have hz2 : xSt F20 ((b + 50)) (aS0) := xSt_fr hz2 (fun a9 q1 q2 => by rw [← e20]; exact xup_ne (by omega))
  have hz3 : F20 (b + 99) = some (.inr (4, 9, (fun _ => .null))) := by rw [← e20]; exact (xup_ne (by omega)).trans hz3
  have hz4 : F20 (b + 100) = some (.inl (4, [.ref ((b + 100) + 1), .ref ((b + 100) + 3), .ref ((b + 100) + 4), .ref ((b + 100) + 5), .ref ((b + 100) + 6), .int (nI 0), .int (nI 0), .int (nI 0), .int (nI 0), .int (nI 0), .int (nI 0)])) := by rw [← e20]; exact (xup_ne (by omega)).trans hz4
  have hnht_40 : xTx F20 ((b + 100) + 1) (60) (0) ((fun _ => 0)) := xTx_fr hnht_40 (fun a9 q1 q2 => by rw [← e20]; exact xup_ne (by omega))
  have hnhK_40 : xPk F20 ((b + 100)) ((cm.2.1)) (K00) := xPk_fr hnhK_40 (fun a9 q1 q2 => by rw [← e20]; exact xup_ne (by omega))
  have hz7 : xTx F20 ((b + 107)) (32) (0) ((fun _ => 0)) := xTx_fr hz7 (fun a9 q1 q2 => by rw [← e20]; exact xup_ne (by omega))
  have hz8 : xBt F20 ((b + 109)) (0) ((fun _ => 0)) := xBt_fr hz8 (fun a9 q1 q2 => by rw [← e20]; exact xup_ne (by omega))
  have hz9 : xRg F20 ((b + 111)) := xRg_fr hz9 (fun a9 q1 q2 => by rw [← e20]; exact xup_ne (by omega))
  have hag : ∀ a9 : Nat, (a9 < b ∨ b + 566 ≤ a9) → F20 a9 = F a9 := fun a9 q0 => by rw [← e20]; exact (xup_ne (by omega)).trans (hag a9 q0)
  refine x_aload_n hC d_MessageCoder_init_81 rfl rfl ?_
  refine x_new hC (fs := [.null, .int (nI 0)]) kn_MessageCoder_30 (by decide) d_MessageCoder_init_82 ?_
  generalize e21 : xup F20 (b + 122) (.inl (8, [.null, .int (nI 0)])) = F21
  have b0 : F21 (b) = some (.inl (9, [.ref (b + 1), .ref (b + 50), .ref (b + 99), .ref (b + 100), .ref (b + 107), .ref (b + 109), .ref (b + 111), .null, .null, .int (nI 0), .int (nI 0), .int (nI 0), .int 0, .int 0])) := by rw [← e21]; exact (xup_ne (by omega)).trans b0
  have hz1 : xSt F21 ((b + 1)) (aS0) := xSt_fr hz1 (fun a9 q1 q2 => by rw [← e21]; exact xup_ne (by omega))
  have hz2 : xSt F21 ((b + 50)) (aS0) := xSt_fr hz2 (fun a9 q1 q2 => by rw [← e21]; exact xup_ne (by omega))
  have hz3 : F21 (b + 99) = some (.inr (4, 9, (fun _ => .null))) := by rw [← e21]; exact (xup_ne (by omega)).trans hz3
  have hz4 : F21 (b + 100) = some (.inl (4, [.ref ((b + 100) + 1), .ref ((b + 100) + 3), .ref ((b + 100) + 4), .ref ((b + 100) + 5), .ref ((b + 100) + 6), .int (nI 0), .int (nI 0), .int (nI 0), .int (nI 0), .int (nI 0), .int (nI 0)])) := by rw [← e21]; exact (xup_ne (by omega)).trans hz4
  have hnht_40 : xTx F21 ((b + 100) + 1) (60) (0) ((fun _ => 0)) := xTx_fr hnht_40 (fun a9 q1 q2 => by rw [← e21]; exact xup_ne (by omega))
  have hnhK_40 : xPk F21 ((b + 100)) ((cm.2.1)) (K00) := xPk_fr hnhK_40 (fun a9 q1 q2 => by rw [← e21]; exact xup_ne (by omega))
  have hz7 : xTx F21 ((b + 107)) (32) (0) ((fun _ => 0)) := xTx_fr hz7 (fun a9 q1 q2 => by rw [← e21]; exact xup_ne (by omega))
  have hz8 : xBt F21 ((b + 109)) (0) ((fun _ => 0)) := xBt_fr hz8 (fun a9 q1 q2 => by rw [← e21]; exact xup_ne (by omega))
  have hz9 : xRg F21 ((b + 111)) := xRg_fr hz9 (fun a9 q1 q2 => by rw [← e21]; exact xup_ne (by omega))
  have hz10 : F21 (b + 122) = some (.inl (8, [.null, .int (nI 0)])) := by rw [← e21]; exact xup_eq
  have hag : ∀ a9 : Nat, (a9 < b ∨ b + 566 ≤ a9) → F21 a9 = F a9 := fun a9 q0 => by rw [← e21]; exact (xup_ne (by omega)).trans (hag a9 q0)
  refine x_dup hC d_MessageCoder_init_85 rfl ?_
  refine x_bipush hC d_MessageCoder_init_86 (v := nI 16) (by decide) ?_
  refine x_callI hC ki_MessageCoder_32 rfl (c_Text_init16 (h0 := hz10)) (by decide) rfl rfl rfl (Nat.le_of_ble_eq_true rfl) (by decide) d_MessageCoder_init_88 (fun r9 F9 z9 hp9 => ?_)
  obtain ⟨rfl, h9c, j0, hag9⟩ := hp9
  rw [h9c]
  clear h9c z9
  generalize F9 = F22 at *
  have b0 : F22 (b) = some (.inl (9, [.ref (b + 1), .ref (b + 50), .ref (b + 99), .ref (b + 100), .ref (b + 107), .ref (b + 109), .ref (b + 111), .null, .null, .int (nI 0), .int (nI 0), .int (nI 0), .int 0, .int 0])) := (hag9 _ (by omega)).trans b0
  have hz1 : xSt F22 ((b + 1)) (aS0) := xSt_fr hz1 (fun a9 q1 q2 => hag9 a9 (by omega))
  have hz2 : xSt F22 ((b + 50)) (aS0) := xSt_fr hz2 (fun a9 q1 q2 => hag9 a9 (by omega))
  have hz3 : F22 (b + 99) = some (.inr (4, 9, (fun _ => .null))) := (hag9 _ (by omega)).trans hz3
  have hz4 : F22 (b + 100) = some (.inl (4, [.ref ((b + 100) + 1), .ref ((b + 100) + 3), .ref ((b + 100) + 4), .ref ((b + 100) + 5), .ref ((b + 100) + 6), .int (nI 0), .int (nI 0), .int (nI 0), .int (nI 0), .int (nI 0), .int (nI 0)])) := (hag9 _ (by omega)).trans hz4
  have hnht_40 : xTx F22 ((b + 100) + 1) (60) (0) ((fun _ => 0)) := xTx_fr hnht_40 (fun a9 q1 q2 => hag9 a9 (by omega))
  have hnhK_40 : xPk F22 ((b + 100)) ((cm.2.1)) (K00) := xPk_fr hnhK_40 (fun a9 q1 q2 => hag9 a9 (by omega))
  have hz7 : xTx F22 ((b + 107)) (32) (0) ((fun _ => 0)) := xTx_fr hz7 (fun a9 q1 q2 => hag9 a9 (by omega))
  have hz8 : xBt F22 ((b + 109)) (0) ((fun _ => 0)) := xBt_fr hz8 (fun a9 q1 q2 => hag9 a9 (by omega))
  have hz9 : xRg F22 ((b + 111)) := xRg_fr hz9 (fun a9 q1 q2 => hag9 a9 (by omega))
  have hz10 : xTx F22 ((b + 122)) (16) (0) ((fun _ => 0)) := j0
  have hag : ∀ a9 : Nat, (a9 < b ∨ b + 566 ≤ a9) → F22 a9 = F a9 := fun a9 q0 => (hag9 a9 (by omega)).trans (hag a9 q0)
  have hg_88 := hag9
  clear hag9
  refine x_putF hC hin kk_MessageCoder_53 b0 (Nat.le_of_ble_eq_true rfl) rfl rfl d_MessageCoder_init_91 (fs1 := [.ref (b + 1), .ref (b + 50), .ref (b + 99), .ref (b + 100), .ref (b + 107), .ref (b + 109), .ref (b + 111), .ref (b + 122), .null, .int (nI 0), .int (nI 0), .int (nI 0), .int 0, .int 0]) rfl ?_
  generalize e23 : xup F22 (b) (.inl (9, [.ref (b + 1), .ref (b + 50), .ref (b + 99), .ref (b + 100), .ref (b + 107), .ref (b + 109), .ref (b + 111), .ref (b + 122), .null, .int (nI 0), .int (nI 0), .int (nI 0), .int 0, .int 0])) = F23
  have b0 : F23 (b) = some (.inl (9, [.ref (b + 1), .ref (b + 50), .ref (b + 99), .ref (b + 100), .ref (b + 107), .ref (b + 109), .ref (b + 111), .ref (b + 122), .null, .int (nI 0), .int (nI 0), .int (nI 0), .int 0, .int 0])) := by rw [← e23]; exact xup_eq
  have hz1 : xSt F23 ((b + 1)) (aS0) := xSt_fr hz1 (fun a9 q1 q2 => by rw [← e23]; exact xup_ne (by omega))
  have hz2 : xSt F23 ((b + 50)) (aS0) := xSt_fr hz2 (fun a9 q1 q2 => by rw [← e23]; exact xup_ne (by omega))
  have hz3 : F23 (b + 99) = some (.inr (4, 9, (fun _ => .null))) := by rw [← e23]; exact (xup_ne (by omega)).trans hz3
  have hz4 : F23 (b + 100) = some (.inl (4, [.ref ((b + 100) + 1), .ref ((b + 100) + 3), .ref ((b + 100) + 4), .ref ((b + 100) + 5), .ref ((b + 100) + 6), .int (nI 0), .int (nI 0), .int (nI 0), .int (nI 0), .int (nI 0), .int (nI 0)])) := by rw [← e23]; exact (xup_ne (by omega)).trans hz4
  have hnht_40 : xTx F23 ((b + 100) + 1) (60) (0) ((fun _ => 0)) := xTx_fr hnht_40 (fun a9 q1 q2 => by rw [← e23]; exact xup_ne (by omega))
  have hnhK_40 : xPk F23 ((b + 100)) ((cm.2.1)) (K00) := xPk_fr hnhK_40 (fun a9 q1 q2 => by rw [← e23]; exact xup_ne (by omega))
  have hz7 : xTx F23 ((b + 107)) (32) (0) ((fun _ => 0)) := xTx_fr hz7 (fun a9 q1 q2 => by rw [← e23]; exact xup_ne (by omega))
  have hz8 : xBt F23 ((b + 109)) (0) ((fun _ => 0)) := xBt_fr hz8 (fun a9 q1 q2 => by rw [← e23]; exact xup_ne (by omega))
  have hz9 : xRg F23 ((b + 111)) := xRg_fr hz9 (fun a9 q1 q2 => by rw [← e23]; exact xup_ne (by omega))
  have hz10 : xTx F23 ((b + 122)) (16) (0) ((fun _ => 0)) := xTx_fr hz10 (fun a9 q1 q2 => by rw [← e23]; exact xup_ne (by omega))
  have hag : ∀ a9 : Nat, (a9 < b ∨ b + 566 ≤ a9) → F23 a9 = F a9 := fun a9 q0 => by rw [← e23]; exact (xup_ne (by omega)).trans (hag a9 q0)
  refine x_aload_n hC d_MessageCoder_init_94 rfl rfl ?_
  refine x_bipush hC d_MessageCoder_init_95 (v := nI 17) (by decide) ?_
  refine x_newa hC (t := 0) rfl (by decide) (by decide) (x_in (x_of (xtb_1 (List.mem_of_getElem? (i := 109) (by decide +kernel)))) (by decide +kernel)) rfl (by omega) (by decide) (by decide) (f1 := fun b9 => .int (nI ((fun _ => 0) b9))) rfl d_MessageCoder_init_97 ?_
  generalize e24 : xup F23 (b + 124) (.inr (0, 17, fun b9 => .int (nI ((fun _ => 0) b9)))) = F24
  have b0 : F24 (b) = some (.inl (9, [.ref (b + 1), .ref (b + 50), .ref (b + 99), .ref (b + 100), .ref (b + 107), .ref (b + 109), .ref (b + 111), .ref (b + 122), .null, .int (nI 0), .int (nI 0), .int (nI 0), .int 0, .int 0])) := by rw [← e24]; exact (xup_ne (by omega)).trans b0
  have hz1 : xSt F24 ((b + 1)) (aS0) := xSt_fr hz1 (fun a9 q1 q2 => by rw [← e24]; exact xup_ne (by omega))
  have hz2 : xSt F24 ((b + 50)) (aS0) := xSt_fr hz2 (fun a9 q1 q2 => by rw [← e24]; exact xup_ne (by omega))
  have hz3 : F24 (b + 99) = some (.inr (4, 9, (fun _ => .null))) := by rw [← e24]; exact (xup_ne (by omega)).trans hz3
  have hz4 : F24 (b + 100) = some (.inl (4, [.ref ((b + 100) + 1), .ref ((b + 100) + 3), .ref ((b + 100) + 4), .ref ((b + 100) + 5), .ref ((b + 100) + 6), .int (nI 0), .int (nI 0), .int (nI 0), .int (nI 0), .int (nI 0), .int (nI 0)])) := by rw [← e24]; exact (xup_ne (by omega)).trans hz4
  have hnht_40 : xTx F24 ((b + 100) + 1) (60) (0) ((fun _ => 0)) := xTx_fr hnht_40 (fun a9 q1 q2 => by rw [← e24]; exact xup_ne (by omega))
  have hnhK_40 : xPk F24 ((b + 100)) ((cm.2.1)) (K00) := xPk_fr hnhK_40 (fun a9 q1 q2 => by rw [← e24]; exact xup_ne (by omega))
  have hz7 : xTx F24 ((b + 107)) (32) (0) ((fun _ => 0)) := xTx_fr hz7 (fun a9 q1 q2 => by rw [← e24]; exact xup_ne (by omega))
  have hz8 : xBt F24 ((b + 109)) (0) ((fun _ => 0)) := xBt_fr hz8 (fun a9 q1 q2 => by rw [← e24]; exact xup_ne (by omega))
  have hz9 : xRg F24 ((b + 111)) := xRg_fr hz9 (fun a9 q1 q2 => by rw [← e24]; exact xup_ne (by omega))
  have hz10 : xTx F24 ((b + 122)) (16) (0) ((fun _ => 0)) := xTx_fr hz10 (fun a9 q1 q2 => by rw [← e24]; exact xup_ne (by omega))
  have hz11 : F24 (b + 124) = some (.inr (0, 17, fun b9 => .int (nI ((fun _ => 0) b9)))) := by rw [← e24]; exact xup_eq
  have hag : ∀ a9 : Nat, (a9 < b ∨ b + 566 ≤ a9) → F24 a9 = F a9 := fun a9 q0 => by rw [← e24]; exact (xup_ne (by omega)).trans (hag a9 q0)
  refine x_putF hC hin kk_MessageCoder_56 b0 (Nat.le_of_ble_eq_true rfl) rfl rfl d_MessageCoder_init_99 (fs1 := [.ref (b + 1), .ref (b + 50), .ref (b + 99), .ref (b + 100), .ref (b + 107), .ref (b + 109), .ref (b + 111), .ref (b + 122), .ref (b + 124), .int (nI 0), .int (nI 0), .int (nI 0), .int 0, .int 0]) rfl ?_
  generalize e25 : xup F24 (b) (.inl (9, [.ref (b + 1), .ref (b + 50), .ref (b + 99), .ref (b + 100), .ref (b + 107), .ref (b + 109), .ref (b + 111), .ref (b + 122), .ref (b + 124), .int (nI 0), .int (nI 0), .int (nI 0), .int 0, .int 0])) = F25
  have b0 : F25 (b) = some (.inl (9, [.ref (b + 1), .ref (b + 50), .ref (b + 99), .ref (b + 100), .ref (b + 107), .ref (b + 109), .ref (b + 111), .ref (b + 122), .ref (b + 124), .int (nI 0), .int (nI 0), .int (nI 0), .int 0, .int 0])) := by rw [← e25]; exact xup_eq
  have hz1 : xSt F25 ((b + 1)) (aS0) := xSt_fr hz1 (fun a9 q1 q2 => by rw [← e25]; exact xup_ne (by omega))
  have hz2 : xSt F25 ((b + 50)) (aS0) := xSt_fr hz2 (fun a9 q1 q2 => by rw [← e25]; exact xup_ne (by omega))
  have hz3 : F25 (b + 99) = some (.inr (4, 9, (fun _ => .null))) := by rw [← e25]; exact (xup_ne (by omega)).trans hz3
  have hz4 : F25 (b + 100) = some (.inl (4, [.ref ((b + 100) + 1), .ref ((b + 100) + 3), .ref ((b + 100) + 4), .ref ((b + 100) + 5), .ref ((b + 100) + 6), .int (nI 0), .int (nI 0), .int (nI 0), .int (nI 0), .int (nI 0), .int (nI 0)])) := by rw [← e25]; exact (xup_ne (by omega)).trans hz4
  have hnht_40 : xTx F25 ((b + 100) + 1) (60) (0) ((fun _ => 0)) := xTx_fr hnht_40 (fun a9 q1 q2 => by rw [← e25]; exact xup_ne (by omega))
  have hnhK_40 : xPk F25 ((b + 100)) ((cm.2.1)) (K00) := xPk_fr hnhK_40 (fun a9 q1 q2 => by rw [← e25]; exact xup_ne (by omega))
  have hz7 : xTx F25 ((b + 107)) (32) (0) ((fun _ => 0)) := xTx_fr hz7 (fun a9 q1 q2 => by rw [← e25]; exact xup_ne (by omega))
  have hz8 : xBt F25 ((b + 109)) (0) ((fun _ => 0)) := xBt_fr hz8 (fun a9 q1 q2 => by rw [← e25]; exact xup_ne (by omega))
  have hz9 : xRg F25 ((b + 111)) := xRg_fr hz9 (fun a9 q1 q2 => by rw [← e25]; exact xup_ne (by omega))
  have hz10 : xTx F25 ((b + 122)) (16) (0) ((fun _ => 0)) := xTx_fr hz10 (fun a9 q1 q2 => by rw [← e25]; exact xup_ne (by omega))
  have hz11 : F25 (b + 124) = some (.inr (0, 17, fun b9 => .int (nI ((fun _ => 0) b9)))) := by rw [← e25]; exact (xup_ne (by omega)).trans hz11
  have hag : ∀ a9 : Nat, (a9 < b ∨ b + 566 ≤ a9) → F25 a9 = F a9 := fun a9 q0 => by rw [← e25]; exact (xup_ne (by omega)).trans (hag a9 q0)
  refine x_aload_n hC d_MessageCoder_init_102 rfl rfl ?_
  refine x_iconst hC d_MessageCoder_init_103 (v := -1) (by decide) ?_
  refine x_putf hC kf_MessageCoder_60 b0 (Nat.le_of_ble_eq_true rfl) rfl rfl d_MessageCoder_init_104 (fs1 := [.ref (b + 1), .ref (b + 50), .ref (b + 99), .ref (b + 100), .ref (b + 107), .ref (b + 109), .ref (b + 111), .ref (b + 122), .ref (b + 124), .int (nI 0), .int (nI 0), .int (nI 0), .int (-1), .int 0]) rfl ?_
  generalize e26 : xup F25 (b) (.inl (9, [.ref (b + 1), .ref (b + 50), .ref (b + 99), .ref (b + 100), .ref (b + 107), .ref (b + 109), .ref (b + 111), .ref (b + 122), .ref (b + 124), .int (nI 0), .int (nI 0), .int (nI 0), .int (-1), .int 0])) = F26
  have b0 : F26 (b) = some (.inl (9, [.ref (b + 1), .ref (b + 50), .ref (b + 99), .ref (b + 100), .ref (b + 107), .ref (b + 109), .ref (b + 111), .ref (b + 122), .ref (b + 124), .int (nI 0), .int (nI 0), .int (nI 0), .int (-1), .int 0])) := by rw [← e26]; exact xup_eq
  have hz1 : xSt F26 ((b + 1)) (aS0) := xSt_fr hz1 (fun a9 q1 q2 => by rw [← e26]; exact xup_ne (by omega))
  have hz2 : xSt F26 ((b + 50)) (aS0) := xSt_fr hz2 (fun a9 q1 q2 => by rw [← e26]; exact xup_ne (by omega))
  have hz3 : F26 (b + 99) = some (.inr (4, 9, (fun _ => .null))) := by rw [← e26]; exact (xup_ne (by omega)).trans hz3
  have hz4 : F26 (b + 100) = some (.inl (4, [.ref ((b + 100) + 1), .ref ((b + 100) + 3), .ref ((b + 100) + 4), .ref ((b + 100) + 5), .ref ((b + 100) + 6), .int (nI 0), .int (nI 0), .int (nI 0), .int (nI 0), .int (nI 0), .int (nI 0)])) := by rw [← e26]; exact (xup_ne (by omega)).trans hz4
  have hnht_40 : xTx F26 ((b + 100) + 1) (60) (0) ((fun _ => 0)) := xTx_fr hnht_40 (fun a9 q1 q2 => by rw [← e26]; exact xup_ne (by omega))
  have hnhK_40 : xPk F26 ((b + 100)) ((cm.2.1)) (K00) := xPk_fr hnhK_40 (fun a9 q1 q2 => by rw [← e26]; exact xup_ne (by omega))
  have hz7 : xTx F26 ((b + 107)) (32) (0) ((fun _ => 0)) := xTx_fr hz7 (fun a9 q1 q2 => by rw [← e26]; exact xup_ne (by omega))
  have hz8 : xBt F26 ((b + 109)) (0) ((fun _ => 0)) := xBt_fr hz8 (fun a9 q1 q2 => by rw [← e26]; exact xup_ne (by omega))
  have hz9 : xRg F26 ((b + 111)) := xRg_fr hz9 (fun a9 q1 q2 => by rw [← e26]; exact xup_ne (by omega))
  have hz10 : xTx F26 ((b + 122)) (16) (0) ((fun _ => 0)) := xTx_fr hz10 (fun a9 q1 q2 => by rw [← e26]; exact xup_ne (by omega))
  have hz11 : F26 (b + 124) = some (.inr (0, 17, fun b9 => .int (nI ((fun _ => 0) b9)))) := by rw [← e26]; exact (xup_ne (by omega)).trans hz11
  have hag : ∀ a9 : Nat, (a9 < b ∨ b + 566 ≤ a9) → F26 a9 = F a9 := fun a9 q0 => by rw [← e26]; exact (xup_ne (by omega)).trans (hag a9 q0)
  refine x_aload_n hC d_MessageCoder_init_107 rfl rfl ?_
  refine x_iconst hC d_MessageCoder_init_108 (v := -1) (by decide) ?_
  refine x_putf hC kf_MessageCoder_64 b0 (Nat.le_of_ble_eq_true rfl) rfl rfl d_MessageCoder_init_109 (fs1 := [.ref (b + 1), .ref (b + 50), .ref (b + 99), .ref (b + 100), .ref (b + 107), .ref (b + 109), .ref (b + 111), .ref (b + 122), .ref (b + 124), .int (nI 0), .int (nI 0), .int (nI 0), .int (-1), .int (-1)]) rfl ?_
  generalize e27 : xup F26 (b) (.inl (9, [.ref (b + 1), .ref (b + 50), .ref (b + 99), .ref (b + 100), .ref (b + 107), .ref (b + 109), .ref (b + 111), .ref (b + 122), .ref (b + 124), .int (nI 0), .int (nI 0), .int (nI 0), .int (-1), .int (-1)])) = F27
  have b0 : F27 (b) = some (.inl (9, [.ref (b + 1), .ref (b + 50), .ref (b + 99), .ref (b + 100), .ref (b + 107), .ref (b + 109), .ref (b + 111), .ref (b + 122), .ref (b + 124), .int (nI 0), .int (nI 0), .int (nI 0), .int (-1), .int (-1)])) := by rw [← e27]; exact xup_eq
  have hz1 : xSt F27 ((b + 1)) (aS0) := xSt_fr hz1 (fun a9 q1 q2 => by rw [← e27]; exact xup_ne (by omega))
  have hz2 : xSt F27 ((b + 50)) (aS0) := xSt_fr hz2 (fun a9 q1 q2 => by rw [← e27]; exact xup_ne (by omega))
  have hz3 : F27 (b + 99) = some (.inr (4, 9, (fun _ => .null))) := by rw [← e27]; exact (xup_ne (by omega)).trans hz3
  have hz4 : F27 (b + 100) = some (.inl (4, [.ref ((b + 100) + 1), .ref ((b + 100) + 3), .ref ((b + 100) + 4), .ref ((b + 100) + 5), .ref ((b + 100) + 6), .int (nI 0), .int (nI 0), .int (nI 0), .int (nI 0), .int (nI 0), .int (nI 0)])) := by rw [← e27]; exact (xup_ne (by omega)).trans hz4
  have hnht_40 : xTx F27 ((b + 100) + 1) (60) (0) ((fun _ => 0)) := xTx_fr hnht_40 (fun a9 q1 q2 => by rw [← e27]; exact xup_ne (by omega))
  have hnhK_40 : xPk F27 ((b + 100)) ((cm.2.1)) (K00) := xPk_fr hnhK_40 (fun a9 q1 q2 => by rw [← e27]; exact xup_ne (by omega))
  have hz7 : xTx F27 ((b + 107)) (32) (0) ((fun _ => 0)) := xTx_fr hz7 (fun a9 q1 q2 => by rw [← e27]; exact xup_ne (by omega))
  have hz8 : xBt F27 ((b + 109)) (0) ((fun _ => 0)) := xBt_fr hz8 (fun a9 q1 q2 => by rw [← e27]; exact xup_ne (by omega))
  have hz9 : xRg F27 ((b + 111)) := xRg_fr hz9 (fun a9 q1 q2 => by rw [← e27]; exact xup_ne (by omega))
  have hz10 : xTx F27 ((b + 122)) (16) (0) ((fun _ => 0)) := xTx_fr hz10 (fun a9 q1 q2 => by rw [← e27]; exact xup_ne (by omega))
  have hz11 : F27 (b + 124) = some (.inr (0, 17, fun b9 => .int (nI ((fun _ => 0) b9)))) := by rw [← e27]; exact (xup_ne (by omega)).trans hz11
  have hag : ∀ a9 : Nat, (a9 < b ∨ b + 566 ≤ a9) → F27 a9 = F a9 := fun a9 q0 => by rw [← e27]; exact (xup_ne (by omega)).trans (hag a9 q0)
  refine x_iconst hC d_MessageCoder_init_112 (v := nI 0) (by decide) ?_
  refine x_istore_n hC d_MessageCoder_init_113 rfl (Nat.le_of_ble_eq_true rfl) (L1 := [some (.ref b), some (.int (nI 0))]) rfl ?_
  refine x_iload_n hC d_MessageCoder_init_114 rfl rfl ?_
  refine x_bipush hC d_MessageCoder_init_115 (v := nI 9) (by decide) ?_
  refine x_icmpN_ge hC d_MessageCoder_init_117 (tgt := 139) (by decide) (by omega) (by omega) (fun c_117 => ?_) (fun c_117 => ?_)
  · skip
    exact absurd c_117 (by omega)
  · skip
    refine x_aload_n hC d_MessageCoder_init_120 rfl rfl ?_
    refine x_getf hC kf_MessageCoder_19 b0 rfl d_MessageCoder_init_121 ?_
    refine x_iload_n hC d_MessageCoder_init_124 rfl rfl ?_
    refine x_new hC (fs := [.null, .null, .null, .null, .null, .int (nI 0), .int (nI 0), .int (nI 0), .int (nI 0)]) kn_MessageCoder_9 (by decide) d_MessageCoder_init_125 ?_
    generalize e28 : xup F27 (b + 125) (.inl (7, [.null, .null, .null, .null, .null, .int (nI 0), .int (nI 0), .int (nI 0), .int (nI 0)])) = F28
    have b0 : F28 (b) = some (.inl (9, [.ref (b + 1), .ref (b + 50), .ref (b + 99), .ref (b + 100), .ref (b + 107), .ref (b + 109), .ref (b + 111), .ref (b + 122), .ref (b + 124), .int (nI 0), .int (nI 0), .int (nI 0), .int (-1), .int (-1)])) := by rw [← e28]; exact (xup_ne (by omega)).trans b0
    have hz1 : xSt F28 ((b + 1)) (aS0) := xSt_fr hz1 (fun a9 q1 q2 => by rw [← e28]; exact xup_ne (by omega))
    have hz2 : xSt F28 ((b + 50)) (aS0) := xSt_fr hz2 (fun a9 q1 q2 => by rw [← e28]; exact xup_ne (by omega))
    have hz3 : F28 (b + 99) = some (.inr (4, 9, (fun _ => .null))) := by rw [← e28]; exact (xup_ne (by omega)).trans hz3
    have hz4 : F28 (b + 100) = some (.inl (4, [.ref ((b + 100) + 1), .ref ((b + 100) + 3), .ref ((b + 100) + 4), .ref ((b + 100) + 5), .ref ((b + 100) + 6), .int (nI 0), .int (nI 0), .int (nI 0), .int (nI 0), .int (nI 0), .int (nI 0)])) := by rw [← e28]; exact (xup_ne (by omega)).trans hz4
    have hnht_40 : xTx F28 ((b + 100) + 1) (60) (0) ((fun _ => 0)) := xTx_fr hnht_40 (fun a9 q1 q2 => by rw [← e28]; exact xup_ne (by omega))
    have hnhK_40 : xPk F28 ((b + 100)) ((cm.2.1)) (K00) := xPk_fr hnhK_40 (fun a9 q1 q2 => by rw [← e28]; exact xup_ne (by omega))
    have hz7 : xTx F28 ((b + 107)) (32) (0) ((fun _ => 0)) := xTx_fr hz7 (fun a9 q1 q2 => by rw [← e28]; exact xup_ne (by omega))
    have hz8 : xBt F28 ((b + 109)) (0) ((fun _ => 0)) := xBt_fr hz8 (fun a9 q1 q2 => by rw [← e28]; exact xup_ne (by omega))
    have hz9 : xRg F28 ((b + 111)) := xRg_fr hz9 (fun a9 q1 q2 => by rw [← e28]; exact xup_ne (by omega))
    have hz10 : xTx F28 ((b + 122)) (16) (0) ((fun _ => 0)) := xTx_fr hz10 (fun a9 q1 q2 => by rw [← e28]; exact xup_ne (by omega))
    have hz11 : F28 (b + 124) = some (.inr (0, 17, fun b9 => .int (nI ((fun _ => 0) b9)))) := by rw [← e28]; exact (xup_ne (by omega)).trans hz11
    have hz12 : F28 (b + 125) = some (.inl (7, [.null, .null, .null, .null, .null, .int (nI 0), .int (nI 0), .int (nI 0), .int (nI 0)])) := by rw [← e28]; exact xup_eq
    have hag : ∀ a9 : Nat, (a9 < b ∨ b + 566 ≤ a9) → F28 a9 = F a9 := fun a9 q0 => by rw [← e28]; exact (xup_ne (by omega)).trans (hag a9 q0)
    refine x_dup hC d_MessageCoder_init_128 rfl ?_
    refine x_callI hC ki_MessageCoder_11 rfl (c_State_init (h0 := hz12)) (by decide) rfl rfl rfl (Nat.le_of_ble_eq_true rfl) (by decide) d_MessageCoder_init_129 (fun r9 F9 z9 hp9 => ?_)
    obtain ⟨rfl, h9c, j0, hag9⟩ := hp9
    rw [h9c]
    clear h9c z9
    generalize F9 = F29 at *
    have b0 : F29 (b) = some (.inl (9, [.ref (b + 1), .ref (b + 50), .ref (b + 99), .ref (b + 100), .ref (b + 107), .ref (b + 109), .ref (b + 111), .ref (b + 122), .ref (b + 124), .int (nI 0), .int (nI 0), .int (nI 0), .int (-1), .int (-1)])) := (hag9 _ (by omega)).trans b0
    have hz1 : xSt F29 ((b + 1)) (aS0) := xSt_fr hz1 (fun a9 q1 q2 => hag9 a9 (by omega))
    have hz2 : xSt F29 ((b + 50)) (aS0) := xSt_fr hz2 (fun a9 q1 q2 => hag9 a9 (by omega))
    have hz3 : F29 (b + 99) = some (.inr (4, 9, (fun _ => .null))) := (hag9 _ (by omega)).trans hz3
    have hz4 : F29 (b + 100) = some (.inl (4, [.ref ((b + 100) + 1), .ref ((b + 100) + 3), .ref ((b + 100) + 4), .ref ((b + 100) + 5), .ref ((b + 100) + 6), .int (nI 0), .int (nI 0), .int (nI 0), .int (nI 0), .int (nI 0), .int (nI 0)])) := (hag9 _ (by omega)).trans hz4
    have hnht_40 : xTx F29 ((b + 100) + 1) (60) (0) ((fun _ => 0)) := xTx_fr hnht_40 (fun a9 q1 q2 => hag9 a9 (by omega))
    have hnhK_40 : xPk F29 ((b + 100)) ((cm.2.1)) (K00) := xPk_fr hnhK_40 (fun a9 q1 q2 => hag9 a9 (by omega))
    have hz7 : xTx F29 ((b + 107)) (32) (0) ((fun _ => 0)) := xTx_fr hz7 (fun a9 q1 q2 => hag9 a9 (by omega))
    have hz8 : xBt F29 ((b + 109)) (0) ((fun _ => 0)) := xBt_fr hz8 (fun a9 q1 q2 => hag9 a9 (by omega))
    have hz9 : xRg F29 ((b + 111)) := xRg_fr hz9 (fun a9 q1 q2 => hag9 a9 (by omega))
    have hz10 : xTx F29 ((b + 122)) (16) (0) ((fun _ => 0)) := xTx_fr hz10 (fun a9 q1 q2 => hag9 a9 (by omega))
    have hz11 : F29 (b + 124) = some (.inr (0, 17, fun b9 => .int (nI ((fun _ => 0) b9)))) := (hag9 _ (by omega)).trans hz11
    have hz12 : xSt F29 ((b + 125)) (aS0) := j0
    have hag : ∀ a9 : Nat, (a9 < b ∨ b + 566 ≤ a9) → F29 a9 = F a9 := fun a9 q0 => (hag9 a9 (by omega)).trans (hag a9 q0)
    have hg_129 := hag9
    clear hag9
    refine x_aast hC hz3 (by decide) rfl hz12.1 rfl (j := 0) ⟨rfl, by omega, by omega⟩ d_MessageCoder_init_132 (f1 := updV ((fun _ => .null)) (0) (.ref (b + 125))) rfl ?_
    generalize eg30 : updV ((fun _ => .null)) (0) (.ref (b + 125)) = gw30
    generalize e31 : xup F29 (b + 99) (.inr (4, 9, gw30)) = F31
    have b0 : F31 (b) = some (.inl (9, [.ref (b + 1), .ref (b + 50), .ref (b + 99), .ref (b + 100), .ref (b + 107), .ref (b + 109), .ref (b + 111), .ref (b + 122), .ref (b + 124), .int (nI 0), .int (nI 0), .int (nI 0), .int (-1), .int (-1)])) := by rw [← e31]; exact (xup_ne (by omega)).trans b0
    have hz1 : xSt F31 ((b + 1)) (aS0) := xSt_fr hz1 (fun a9 q1 q2 => by rw [← e31]; exact xup_ne (by omega))
    have hz2 : xSt F31 ((b + 50)) (aS0) := xSt_fr hz2 (fun a9 q1 q2 => by rw [← e31]; exact xup_ne (by omega))
    have hz3 : F31 (b + 99) = some (.inr (4, 9, gw30)) := by rw [← e31]; exact xup_eq
    have hz4 : F31 (b + 100) = some (.inl (4, [.ref ((b + 100) + 1), .ref ((b + 100) + 3), .ref ((b + 100) + 4), .ref ((b + 100) + 5), .ref ((b + 100) + 6), .int (nI 0), .int (nI 0), .int (nI 0), .int (nI 0), .int (nI 0), .int (nI 0)])) := by rw [← e31]; exact (xup_ne (by omega)).trans hz4
    have hnht_40 : xTx F31 ((b + 100) + 1) (60) (0) ((fun _ => 0)) := xTx_fr hnht_40 (fun a9 q1 q2 => by rw [← e31]; exact xup_ne (by omega))
    have hnhK_40 : xPk F31 ((b + 100)) ((cm.2.1)) (K00) := xPk_fr hnhK_40 (fun a9 q1 q2 => by rw [← e31]; exact xup_ne (by omega))
    have hz7 : xTx F31 ((b + 107)) (32) (0) ((fun _ => 0)) := xTx_fr hz7 (fun a9 q1 q2 => by rw [← e31]; exact xup_ne (by omega))
    have hz8 : xBt F31 ((b + 109)) (0) ((fun _ => 0)) := xBt_fr hz8 (fun a9 q1 q2 => by rw [← e31]; exact xup_ne (by omega))
    have hz9 : xRg F31 ((b + 111)) := xRg_fr hz9 (fun a9 q1 q2 => by rw [← e31]; exact xup_ne (by omega))
    have hz10 : xTx F31 ((b + 122)) (16) (0) ((fun _ => 0)) := xTx_fr hz10 (fun a9 q1 q2 => by rw [← e31]; exact xup_ne (by omega))
    have hz11 : F31 (b + 124) = some (.inr (0, 17, fun b9 => .int (nI ((fun _ => 0) b9)))) := by rw [← e31]; exact (xup_ne (by omega)).trans hz11
    have hz12 : xSt F31 ((b + 125)) (aS0) := xSt_fr hz12 (fun a9 q1 q2 => by rw [← e31]; exact xup_ne (by omega))
    have hag : ∀ a9 : Nat, (a9 < b ∨ b + 566 ≤ a9) → F31 a9 = F a9 := fun a9 q0 => by rw [← e31]; exact (xup_ne (by omega)).trans (hag a9 q0)
    refine x_iinc hC d_MessageCoder_init_133 rfl (v := (nI (1))) (x_incN 1) (Nat.le_of_ble_eq_true rfl) (L1 := [some (.ref b), some (.int (nI 1))]) rfl ?_
    refine x_goto hC d_MessageCoder_init_136 (tgt := 114) (by decide) ?_
    refine x_iload_n hC d_MessageCoder_init_114 rfl rfl ?_
    refine x_bipush hC d_MessageCoder_init_115 (v := nI 9) (by decide) ?_
    refine x_icmpN_ge hC d_MessageCoder_init_117 (tgt := 139) (by decide) (by omega) (by omega) (fun c_117 => ?_) (fun c_117 => ?_)
    · skip
      exact absurd c_117 (by omega)
    · skip
      refine x_aload_n hC d_MessageCoder_init_120 rfl rfl ?_
      refine x_getf hC kf_MessageCoder_19 b0 rfl d_MessageCoder_init_121 ?_
      refine x_iload_n hC d_MessageCoder_init_124 rfl rfl ?_
      refine x_new hC (fs := [.null, .null, .null, .null, .null, .int (nI 0), .int (nI 0), .int (nI 0), .int (nI 0)]) kn_MessageCoder_9 (by decide) d_MessageCoder_init_125 ?_
      generalize e32 : xup F31 (b + 174) (.inl (7, [.null, .null, .null, .null, .null, .int (nI 0), .int (nI 0), .int (nI 0), .int (nI 0)])) = F32
      have b0 : F32 (b) = some (.inl (9, [.ref (b + 1), .ref (b + 50), .ref (b + 99), .ref (b + 100), .ref (b + 107), .ref (b + 109), .ref (b + 111), .ref (b + 122), .ref (b + 124), .int (nI 0), .int (nI 0), .int (nI 0), .int (-1), .int (-1)])) := by rw [← e32]; exact (xup_ne (by omega)).trans b0
      have hz1 : xSt F32 ((b + 1)) (aS0) := xSt_fr hz1 (fun a9 q1 q2 => by rw [← e32]; exact xup_ne (by omega))
      have hz2 : xSt F32 ((b + 50)) (aS0) := xSt_fr hz2 (fun a9 q1 q2 => by rw [← e32]; exact xup_ne (by omega))
      have hz3 : F32 (b + 99) = some (.inr (4, 9, gw30)) := by rw [← e32]; exact (xup_ne (by omega)).trans hz3
      have hz4 : F32 (b + 100) = some (.inl (4, [.ref ((b + 100) + 1), .ref ((b + 100) + 3), .ref ((b + 100) + 4), .ref ((b + 100) + 5), .ref ((b + 100) + 6), .int (nI 0), .int (nI 0), .int (nI 0), .int (nI 0), .int (nI 0), .int (nI 0)])) := by rw [← e32]; exact (xup_ne (by omega)).trans hz4
      have hnht_40 : xTx F32 ((b + 100) + 1) (60) (0) ((fun _ => 0)) := xTx_fr hnht_40 (fun a9 q1 q2 => by rw [← e32]; exact xup_ne (by omega))
      have hnhK_40 : xPk F32 ((b + 100)) ((cm.2.1)) (K00) := xPk_fr hnhK_40 (fun a9 q1 q2 => by rw [← e32]; exact xup_ne (by omega))
      have hz7 : xTx F32 ((b + 107)) (32) (0) ((fun _ => 0)) := xTx_fr hz7 (fun a9 q1 q2 => by rw [← e32]; exact xup_ne (by omega))
      have hz8 : xBt F32 ((b + 109)) (0) ((fun _ => 0)) := xBt_fr hz8 (fun a9 q1 q2 => by rw [← e32]; exact xup_ne (by omega))
      have hz9 : xRg F32 ((b + 111)) := xRg_fr hz9 (fun a9 q1 q2 => by rw [← e32]; exact xup_ne (by omega))
      have hz10 : xTx F32 ((b + 122)) (16) (0) ((fun _ => 0)) := xTx_fr hz10 (fun a9 q1 q2 => by rw [← e32]; exact xup_ne (by omega))
      have hz11 : F32 (b + 124) = some (.inr (0, 17, fun b9 => .int (nI ((fun _ => 0) b9)))) := by rw [← e32]; exact (xup_ne (by omega)).trans hz11
      have hz12 : xSt F32 ((b + 125)) (aS0) := xSt_fr hz12 (fun a9 q1 q2 => by rw [← e32]; exact xup_ne (by omega))
      have hz13 : F32 (b + 174) = some (.inl (7, [.null, .null, .null, .null, .null, .int (nI 0), .int (nI 0), .int (nI 0), .int (nI 0)])) := by rw [← e32]; exact xup_eq
      have hag : ∀ a9 : Nat, (a9 < b ∨ b + 566 ≤ a9) → F32 a9 = F a9 := fun a9 q0 => by rw [← e32]; exact (xup_ne (by omega)).trans (hag a9 q0)
      refine x_dup hC d_MessageCoder_init_128 rfl ?_
      refine x_callI hC ki_MessageCoder_11 rfl (c_State_init (h0 := hz13)) (by decide) rfl rfl rfl (Nat.le_of_ble_eq_true rfl) (by decide) d_MessageCoder_init_129 (fun r9 F9 z9 hp9 => ?_)
      obtain ⟨rfl, h9c, j0, hag9⟩ := hp9
      rw [h9c]
      clear h9c z9
      generalize F9 = F33 at *
      have b0 : F33 (b) = some (.inl (9, [.ref (b + 1), .ref (b + 50), .ref (b + 99), .ref (b + 100), .ref (b + 107), .ref (b + 109), .ref (b + 111), .ref (b + 122), .ref (b + 124), .int (nI 0), .int (nI 0), .int (nI 0), .int (-1), .int (-1)])) := (hag9 _ (by omega)).trans b0
      have hz1 : xSt F33 ((b + 1)) (aS0) := xSt_fr hz1 (fun a9 q1 q2 => hag9 a9 (by omega))
      have hz2 : xSt F33 ((b + 50)) (aS0) := xSt_fr hz2 (fun a9 q1 q2 => hag9 a9 (by omega))
      have hz3 : F33 (b + 99) = some (.inr (4, 9, gw30)) := (hag9 _ (by omega)).trans hz3
      have hz4 : F33 (b + 100) = some (.inl (4, [.ref ((b + 100) + 1), .ref ((b + 100) + 3), .ref ((b + 100) + 4), .ref ((b + 100) + 5), .ref ((b + 100) + 6), .int (nI 0), .int (nI 0), .int (nI 0), .int (nI 0), .int (nI 0), .int (nI 0)])) := (hag9 _ (by omega)).trans hz4
      have hnht_40 : xTx F33 ((b + 100) + 1) (60) (0) ((fun _ => 0)) := xTx_fr hnht_40 (fun a9 q1 q2 => hag9 a9 (by omega))
      have hnhK_40 : xPk F33 ((b + 100)) ((cm.2.1)) (K00) := xPk_fr hnhK_40 (fun a9 q1 q2 => hag9 a9 (by omega))
      have hz7 : xTx F33 ((b + 107)) (32) (0) ((fun _ => 0)) := xTx_fr hz7 (fun a9 q1 q2 => hag9 a9 (by omega))
      have hz8 : xBt F33 ((b + 109)) (0) ((fun _ => 0)) := xBt_fr hz8 (fun a9 q1 q2 => hag9 a9 (by omega))
      have hz9 : xRg F33 ((b + 111)) := xRg_fr hz9 (fun a9 q1 q2 => hag9 a9 (by omega))
      have hz10 : xTx F33 ((b + 122)) (16) (0) ((fun _ => 0)) := xTx_fr hz10 (fun a9 q1 q2 => hag9 a9 (by omega))
      have hz11 : F33 (b + 124) = some (.inr (0, 17, fun b9 => .int (nI ((fun _ => 0) b9)))) := (hag9 _ (by omega)).trans hz11
      have hz12 : xSt F33 ((b + 125)) (aS0) := xSt_fr hz12 (fun a9 q1 q2 => hag9 a9 (by omega))
      have hz13 : xSt F33 ((b + 174)) (aS0) := j0
      have hag : ∀ a9 : Nat, (a9 < b ∨ b + 566 ≤ a9) → F33 a9 = F a9 := fun a9 q0 => (hag9 a9 (by omega)).trans (hag a9 q0)
      have hg_129 := hag9
      clear hag9
      refine x_aast hC hz3 (by decide) rfl hz13.1 rfl (j := 1) ⟨rfl, by omega, by omega⟩ d_MessageCoder_init_132 (f1 := updV gw30 (1) (.ref (b + 174))) rfl ?_
      generalize eg34 : updV gw30 (1) (.ref (b + 174)) = gw34
      generalize e35 : xup F33 (b + 99) (.inr (4, 9, gw34)) = F35
      have b0 : F35 (b) = some (.inl (9, [.ref (b + 1), .ref (b + 50), .ref (b + 99), .ref (b + 100), .ref (b + 107), .ref (b + 109), .ref (b + 111), .ref (b + 122), .ref (b + 124), .int (nI 0), .int (nI 0), .int (nI 0), .int (-1), .int (-1)])) := by rw [← e35]; exact (xup_ne (by omega)).trans b0
      have hz1 : xSt F35 ((b + 1)) (aS0) := xSt_fr hz1 (fun a9 q1 q2 => by rw [← e35]; exact xup_ne (by omega))
      have hz2 : xSt F35 ((b + 50)) (aS0) := xSt_fr hz2 (fun a9 q1 q2 => by rw [← e35]; exact xup_ne (by omega))
      have hz3 : F35 (b + 99) = some (.inr (4, 9, gw34)) := by rw [← e35]; exact xup_eq
      have hz4 : F35 (b + 100) = some (.inl (4, [.ref ((b + 100) + 1), .ref ((b + 100) + 3), .ref ((b + 100) + 4), .ref ((b + 100) + 5), .ref ((b + 100) + 6), .int (nI 0), .int (nI 0), .int (nI 0), .int (nI 0), .int (nI 0), .int (nI 0)])) := by rw [← e35]; exact (xup_ne (by omega)).trans hz4
      have hnht_40 : xTx F35 ((b + 100) + 1) (60) (0) ((fun _ => 0)) := xTx_fr hnht_40 (fun a9 q1 q2 => by rw [← e35]; exact xup_ne (by omega))
      have hnhK_40 : xPk F35 ((b + 100)) ((cm.2.1)) (K00) := xPk_fr hnhK_40 (fun a9 q1 q2 => by rw [← e35]; exact xup_ne (by omega))
      have hz7 : xTx F35 ((b + 107)) (32) (0) ((fun _ => 0)) := xTx_fr hz7 (fun a9 q1 q2 => by rw [← e35]; exact xup_ne (by omega))
      have hz8 : xBt F35 ((b + 109)) (0) ((fun _ => 0)) := xBt_fr hz8 (fun a9 q1 q2 => by rw [← e35]; exact xup_ne (by omega))
      have hz9 : xRg F35 ((b + 111)) := xRg_fr hz9 (fun a9 q1 q2 => by rw [← e35]; exact xup_ne (by omega))
      have hz10 : xTx F35 ((b + 122)) (16) (0) ((fun _ => 0)) := xTx_fr hz10 (fun a9 q1 q2 => by rw [← e35]; exact xup_ne (by omega))
      have hz11 : F35 (b + 124) = some (.inr (0, 17, fun b9 => .int (nI ((fun _ => 0) b9)))) := by rw [← e35]; exact (xup_ne (by omega)).trans hz11
      have hz12 : xSt F35 ((b + 125)) (aS0) := xSt_fr hz12 (fun a9 q1 q2 => by rw [← e35]; exact xup_ne (by omega))
      have hz13 : xSt F35 ((b + 174)) (aS0) := xSt_fr hz13 (fun a9 q1 q2 => by rw [← e35]; exact xup_ne (by omega))
      have hag : ∀ a9 : Nat, (a9 < b ∨ b + 566 ≤ a9) → F35 a9 = F a9 := fun a9 q0 => by rw [← e35]; exact (xup_ne (by omega)).trans (hag a9 q0)
      refine x_iinc hC d_MessageCoder_init_133 rfl (v := (nI (2))) (x_incN 1) (Nat.le_of_ble_eq_true rfl) (L1 := [some (.ref b), some (.int (nI 2))]) rfl ?_
      refine x_goto hC d_MessageCoder_init_136 (tgt := 114) (by decide) ?_
      refine x_iload_n hC d_MessageCoder_init_114 rfl rfl ?_
      refine x_bipush hC d_MessageCoder_init_115 (v := nI 9) (by decide) ?_
      refine x_icmpN_ge hC d_MessageCoder_init_117 (tgt := 139) (by decide) (by omega) (by omega) (fun c_117 => ?_) (fun c_117 => ?_)
      · skip
        exact absurd c_117 (by omega)
      · skip
        refine x_aload_n hC d_MessageCoder_init_120 rfl rfl ?_
        refine x_getf hC kf_MessageCoder_19 b0 rfl d_MessageCoder_init_121 ?_
        refine x_iload_n hC d_MessageCoder_init_124 rfl rfl ?_
        refine x_new hC (fs := [.null, .null, .null, .null, .null, .int (nI 0), .int (nI 0), .int (nI 0), .int (nI 0)]) kn_MessageCoder_9 (by decide) d_MessageCoder_init_125 ?_
        generalize e36 : xup F35 (b + 223) (.inl (7, [.null, .null, .null, .null, .null, .int (nI 0), .int (nI 0), .int (nI 0), .int (nI 0)])) = F36
        have b0 : F36 (b) = some (.inl (9, [.ref (b + 1), .ref (b + 50), .ref (b + 99), .ref (b + 100), .ref (b + 107), .ref (b + 109), .ref (b + 111), .ref (b + 122), .ref (b + 124), .int (nI 0), .int (nI 0), .int (nI 0), .int (-1), .int (-1)])) := by rw [← e36]; exact (xup_ne (by omega)).trans b0
        have hz1 : xSt F36 ((b + 1)) (aS0) := xSt_fr hz1 (fun a9 q1 q2 => by rw [← e36]; exact xup_ne (by omega))
        have hz2 : xSt F36 ((b + 50)) (aS0) := xSt_fr hz2 (fun a9 q1 q2 => by rw [← e36]; exact xup_ne (by omega))
        have hz3 : F36 (b + 99) = some (.inr (4, 9, gw34)) := by rw [← e36]; exact (xup_ne (by omega)).trans hz3
        have hz4 : F36 (b + 100) = some (.inl (4, [.ref ((b + 100) + 1), .ref ((b + 100) + 3), .ref ((b + 100) + 4), .ref ((b + 100) + 5), .ref ((b + 100) + 6), .int (nI 0), .int (nI 0), .int (nI 0), .int (nI 0), .int (nI 0), .int (nI 0)])) := by rw [← e36]; exact (xup_ne (by omega)).trans hz4
        have hnht_40 : xTx F36 ((b + 100) + 1) (60) (0) ((fun _ => 0)) := xTx_fr hnht_40 (fun a9 q1 q2 => by rw [← e36]; exact xup_ne (by omega))
        have hnhK_40 : xPk F36 ((b + 100)) ((cm.2.1)) (K00) := xPk_fr hnhK_40 (fun a9 q1 q2 => by rw [← e36]; exact xup_ne (by omega))
        have hz7 : xTx F36 ((b + 107)) (32) (0) ((fun _ => 0)) := xTx_fr hz7 (fun a9 q1 q2 => by rw [← e36]; exact xup_ne (by omega))
        have hz8 : xBt F36 ((b + 109)) (0) ((fun _ => 0)) := xBt_fr hz8 (fun a9 q1 q2 => by rw [← e36]; exact xup_ne (by omega))
        have hz9 : xRg F36 ((b + 111)) := xRg_fr hz9 (fun a9 q1 q2 => by rw [← e36]; exact xup_ne (by omega))
        have hz10 : xTx F36 ((b + 122)) (16) (0) ((fun _ => 0)) := xTx_fr hz10 (fun a9 q1 q2 => by rw [← e36]; exact xup_ne (by omega))
        have hz11 : F36 (b + 124) = some (.inr (0, 17, fun b9 => .int (nI ((fun _ => 0) b9)))) := by rw [← e36]; exact (xup_ne (by omega)).trans hz11
        have hz12 : xSt F36 ((b + 125)) (aS0) := xSt_fr hz12 (fun a9 q1 q2 => by rw [← e36]; exact xup_ne (by omega))
        have hz13 : xSt F36 ((b + 174)) (aS0) := xSt_fr hz13 (fun a9 q1 q2 => by rw [← e36]; exact xup_ne (by omega))
        have hz14 : F36 (b + 223) = some (.inl (7, [.null, .null, .null, .null, .null, .int (nI 0), .int (nI 0), .int (nI 0), .int (nI 0)])) := by rw [← e36]; exact xup_eq
        have hag : ∀ a9 : Nat, (a9 < b ∨ b + 566 ≤ a9) → F36 a9 = F a9 := fun a9 q0 => by rw [← e36]; exact (xup_ne (by omega)).trans (hag a9 q0)
        refine x_dup hC d_MessageCoder_init_128 rfl ?_
        refine x_callI hC ki_MessageCoder_11 rfl (c_State_init (h0 := hz14)) (by decide) rfl rfl rfl (Nat.le_of_ble_eq_true rfl) (by decide) d_MessageCoder_init_129 (fun r9 F9 z9 hp9 => ?_)
        obtain ⟨rfl, h9c, j0, hag9⟩ := hp9
        rw [h9c]
        clear h9c z9
        generalize F9 = F37 at *
        have b0 : F37 (b) = some (.inl (9, [.ref (b + 1), .ref (b + 50), .ref (b + 99), .ref (b + 100), .ref (b + 107), .ref (b + 109), .ref (b + 111), .ref (b + 122), .ref (b + 124), .int (nI 0), .int (nI 0), .int (nI 0), .int (-1), .int (-1)])) := (hag9 _ (by omega)).trans b0
        have hz1 : xSt F37 ((b + 1)) (aS0) := xSt_fr hz1 (fun a9 q1 q2 => hag9 a9 (by omega))
        have hz2 : xSt F37 ((b + 50)) (aS0) := xSt_fr hz2 (fun a9 q1 q2 => hag9 a9 (by omega))
        have hz3 : F37 (b + 99) = some (.inr (4, 9, gw34)) := (hag9 _ (by omega)).trans hz3
        have hz4 : F37 (b + 100) = some (.inl (4, [.ref ((b + 100) + 1), .ref ((b + 100) + 3), .ref ((b + 100) + 4), .ref ((b + 100) + 5), .ref ((b + 100) + 6), .int (nI 0), .int (nI 0), .int (nI 0), .int (nI 0), .int (nI 0), .int (nI 0)])) := (hag9 _ (by omega)).trans hz4
        have hnht_40 : xTx F37 ((b + 100) + 1) (60) (0) ((fun _ => 0)) := xTx_fr hnht_40 (fun a9 q1 q2 => hag9 a9 (by omega))
        have hnhK_40 : xPk F37 ((b + 100)) ((cm.2.1)) (K00) := xPk_fr hnhK_40 (fun a9 q1 q2 => hag9 a9 (by omega))
        have hz7 : xTx F37 ((b + 107)) (32) (0) ((fun _ => 0)) := xTx_fr hz7 (fun a9 q1 q2 => hag9 a9 (by omega))
        have hz8 : xBt F37 ((b + 109)) (0) ((fun _ => 0)) := xBt_fr hz8 (fun a9 q1 q2 => hag9 a9 (by omega))
        have hz9 : xRg F37 ((b + 111)) := xRg_fr hz9 (fun a9 q1 q2 => hag9 a9 (by omega))
        have hz10 : xTx F37 ((b + 122)) (16) (0) ((fun _ => 0)) := xTx_fr hz10 (fun a9 q1 q2 => hag9 a9 (by omega))
        have hz11 : F37 (b + 124) = some (.inr (0, 17, fun b9 => .int (nI ((fun _ => 0) b9)))) := (hag9 _ (by omega)).trans hz11
        have hz12 : xSt F37 ((b + 125)) (aS0) := xSt_fr hz12 (fun a9 q1 q2 => hag9 a9 (by omega))
        have hz13 : xSt F37 ((b + 174)) (aS0) := xSt_fr hz13 (fun a9 q1 q2 => hag9 a9 (by omega))
        have hz14 : xSt F37 ((b + 223)) (aS0) := j0
        have hag : ∀ a9 : Nat, (a9 < b ∨ b + 566 ≤ a9) → F37 a9 = F a9 := fun a9 q0 => (hag9 a9 (by omega)).trans (hag a9 q0)
        have hg_129 := hag9
        clear hag9
        refine x_aast hC hz3 (by decide) rfl hz14.1 rfl (j := 2) ⟨rfl, by omega, by omega⟩ d_MessageCoder_init_132 (f1 := updV gw34 (2) (.ref (b + 223))) rfl ?_
        generalize eg38 : updV gw34 (2) (.ref (b + 223)) = gw38
        generalize e39 : xup F37 (b + 99) (.inr (4, 9, gw38)) = F39
        have b0 : F39 (b) = some (.inl (9, [.ref (b + 1), .ref (b + 50), .ref (b + 99), .ref (b + 100), .ref (b + 107), .ref (b + 109), .ref (b + 111), .ref (b + 122), .ref (b + 124), .int (nI 0), .int (nI 0), .int (nI 0), .int (-1), .int (-1)])) := by rw [← e39]; exact (xup_ne (by omega)).trans b0
        have hz1 : xSt F39 ((b + 1)) (aS0) := xSt_fr hz1 (fun a9 q1 q2 => by rw [← e39]; exact xup_ne (by omega))
        have hz2 : xSt F39 ((b + 50)) (aS0) := xSt_fr hz2 (fun a9 q1 q2 => by rw [← e39]; exact xup_ne (by omega))
        have hz3 : F39 (b + 99) = some (.inr (4, 9, gw38)) := by rw [← e39]; exact xup_eq
        have hz4 : F39 (b + 100) = some (.inl (4, [.ref ((b + 100) + 1), .ref ((b + 100) + 3), .ref ((b + 100) + 4), .ref ((b + 100) + 5), .ref ((b + 100) + 6), .int (nI 0), .int (nI 0), .int (nI 0), .int (nI 0), .int (nI 0), .int (nI 0)])) := by rw [← e39]; exact (xup_ne (by omega)).trans hz4
        have hnht_40 : xTx F39 ((b + 100) + 1) (60) (0) ((fun _ => 0)) := xTx_fr hnht_40 (fun a9 q1 q2 => by rw [← e39]; exact xup_ne (by omega))
        have hnhK_40 : xPk F39 ((b + 100)) ((cm.2.1)) (K00) := xPk_fr hnhK_40 (fun a9 q1 q2 => by rw [← e39]; exact xup_ne (by omega))
        have hz7 : xTx F39 ((b + 107)) (32) (0) ((fun _ => 0)) := xTx_fr hz7 (fun a9 q1 q2 => by rw [← e39]; exact xup_ne (by omega))
        have hz8 : xBt F39 ((b + 109)) (0) ((fun _ => 0)) := xBt_fr hz8 (fun a9 q1 q2 => by rw [← e39]; exact xup_ne (by omega))
        have hz9 : xRg F39 ((b + 111)) := xRg_fr hz9 (fun a9 q1 q2 => by rw [← e39]; exact xup_ne (by omega))
        have hz10 : xTx F39 ((b + 122)) (16) (0) ((fun _ => 0)) := xTx_fr hz10 (fun a9 q1 q2 => by rw [← e39]; exact xup_ne (by omega))
        have hz11 : F39 (b + 124) = some (.inr (0, 17, fun b9 => .int (nI ((fun _ => 0) b9)))) := by rw [← e39]; exact (xup_ne (by omega)).trans hz11
        have hz12 : xSt F39 ((b + 125)) (aS0) := xSt_fr hz12 (fun a9 q1 q2 => by rw [← e39]; exact xup_ne (by omega))
        have hz13 : xSt F39 ((b + 174)) (aS0) := xSt_fr hz13 (fun a9 q1 q2 => by rw [← e39]; exact xup_ne (by omega))
        have hz14 : xSt F39 ((b + 223)) (aS0) := xSt_fr hz14 (fun a9 q1 q2 => by rw [← e39]; exact xup_ne (by omega))
        have hag : ∀ a9 : Nat, (a9 < b ∨ b + 566 ≤ a9) → F39 a9 = F a9 := fun a9 q0 => by rw [← e39]; exact (xup_ne (by omega)).trans (hag a9 q0)
        refine x_iinc hC d_MessageCoder_init_133 rfl (v := (nI (3))) (x_incN 1) (Nat.le_of_ble_eq_true rfl) (L1 := [some (.ref b), some (.int (nI 3))]) rfl ?_
        refine x_goto hC d_MessageCoder_init_136 (tgt := 114) (by decide) ?_
        refine x_iload_n hC d_MessageCoder_init_114 rfl rfl ?_
        refine x_bipush hC d_MessageCoder_init_115 (v := nI 9) (by decide) ?_
        refine x_icmpN_ge hC d_MessageCoder_init_117 (tgt := 139) (by decide) (by omega) (by omega) (fun c_117 => ?_) (fun c_117 => ?_)
        · skip
          exact absurd c_117 (by omega)
        · skip
          refine x_aload_n hC d_MessageCoder_init_120 rfl rfl ?_
          refine x_getf hC kf_MessageCoder_19 b0 rfl d_MessageCoder_init_121 ?_
          refine x_iload_n hC d_MessageCoder_init_124 rfl rfl ?_
          refine x_new hC (fs := [.null, .null, .null, .null, .null, .int (nI 0), .int (nI 0), .int (nI 0), .int (nI 0)]) kn_MessageCoder_9 (by decide) d_MessageCoder_init_125 ?_
          generalize e40 : xup F39 (b + 272) (.inl (7, [.null, .null, .null, .null, .null, .int (nI 0), .int (nI 0), .int (nI 0), .int (nI 0)])) = F40
          have b0 : F40 (b) = some (.inl (9, [.ref (b + 1), .ref (b + 50), .ref (b + 99), .ref (b + 100), .ref (b + 107), .ref (b + 109), .ref (b + 111), .ref (b + 122), .ref (b + 124), .int (nI 0), .int (nI 0), .int (nI 0), .int (-1), .int (-1)])) := by rw [← e40]; exact (xup_ne (by omega)).trans b0
          have hz1 : xSt F40 ((b + 1)) (aS0) := xSt_fr hz1 (fun a9 q1 q2 => by rw [← e40]; exact xup_ne (by omega))
          have hz2 : xSt F40 ((b + 50)) (aS0) := xSt_fr hz2 (fun a9 q1 q2 => by rw [← e40]; exact xup_ne (by omega))
          have hz3 : F40 (b + 99) = some (.inr (4, 9, gw38)) := by rw [← e40]; exact (xup_ne (by omega)).trans hz3
          have hz4 : F40 (b + 100) = some (.inl (4, [.ref ((b + 100) + 1), .ref ((b + 100) + 3), .ref ((b + 100) + 4), .ref ((b + 100) + 5), .ref ((b + 100) + 6), .int (nI 0), .int (nI 0), .int (nI 0), .int (nI 0), .int (nI 0), .int (nI 0)])) := by rw [← e40]; exact (xup_ne (by omega)).trans hz4
          have hnht_40 : xTx F40 ((b + 100) + 1) (60) (0) ((fun _ => 0)) := xTx_fr hnht_40 (fun a9 q1 q2 => by rw [← e40]; exact xup_ne (by omega))
          have hnhK_40 : xPk F40 ((b + 100)) ((cm.2.1)) (K00) := xPk_fr hnhK_40 (fun a9 q1 q2 => by rw [← e40]; exact xup_ne (by omega))
          have hz7 : xTx F40 ((b + 107)) (32) (0) ((fun _ => 0)) := xTx_fr hz7 (fun a9 q1 q2 => by rw [← e40]; exact xup_ne (by omega))
          have hz8 : xBt F40 ((b + 109)) (0) ((fun _ => 0)) := xBt_fr hz8 (fun a9 q1 q2 => by rw [← e40]; exact xup_ne (by omega))
          have hz9 : xRg F40 ((b + 111)) := xRg_fr hz9 (fun a9 q1 q2 => by rw [← e40]; exact xup_ne (by omega))
          have hz10 : xTx F40 ((b + 122)) (16) (0) ((fun _ => 0)) := xTx_fr hz10 (fun a9 q1 q2 => by rw [← e40]; exact xup_ne (by omega))
          have hz11 : F40 (b + 124) = some (.inr (0, 17, fun b9 => .int (nI ((fun _ => 0) b9)))) := by rw [← e40]; exact (xup_ne (by omega)).trans hz11
          have hz12 : xSt F40 ((b + 125)) (aS0) := xSt_fr hz12 (fun a9 q1 q2 => by rw [← e40]; exact xup_ne (by omega))
          have hz13 : xSt F40 ((b + 174)) (aS0) := xSt_fr hz13 (fun a9 q1 q2 => by rw [← e40]; exact xup_ne (by omega))
          have hz14 : xSt F40 ((b + 223)) (aS0) := xSt_fr hz14 (fun a9 q1 q2 => by rw [← e40]; exact xup_ne (by omega))
          have hz15 : F40 (b + 272) = some (.inl (7, [.null, .null, .null, .null, .null, .int (nI 0), .int (nI 0), .int (nI 0), .int (nI 0)])) := by rw [← e40]; exact xup_eq
          have hag : ∀ a9 : Nat, (a9 < b ∨ b + 566 ≤ a9) → F40 a9 = F a9 := fun a9 q0 => by rw [← e40]; exact (xup_ne (by omega)).trans (hag a9 q0)
          refine x_dup hC d_MessageCoder_init_128 rfl ?_
          refine x_callI hC ki_MessageCoder_11 rfl (c_State_init (h0 := hz15)) (by decide) rfl rfl rfl (Nat.le_of_ble_eq_true rfl) (by decide) d_MessageCoder_init_129 (fun r9 F9 z9 hp9 => ?_)
          obtain ⟨rfl, h9c, j0, hag9⟩ := hp9
          rw [h9c]
          clear h9c z9
          generalize F9 = F41 at *
          have b0 : F41 (b) = some (.inl (9, [.ref (b + 1), .ref (b + 50), .ref (b + 99), .ref (b + 100), .ref (b + 107), .ref (b + 109), .ref (b + 111), .ref (b + 122), .ref (b + 124), .int (nI 0), .int (nI 0), .int (nI 0), .int (-1), .int (-1)])) := (hag9 _ (by omega)).trans b0
          have hz1 : xSt F41 ((b + 1)) (aS0) := xSt_fr hz1 (fun a9 q1 q2 => hag9 a9 (by omega))
          have hz2 : xSt F41 ((b + 50)) (aS0) := xSt_fr hz2 (fun a9 q1 q2 => hag9 a9 (by omega))
          have hz3 : F41 (b + 99) = some (.inr (4, 9, gw38)) := (hag9 _ (by omega)).trans hz3
          have hz4 : F41 (b + 100) = some (.inl (4, [.ref ((b + 100) + 1), .ref ((b + 100) + 3), .ref ((b + 100) + 4), .ref ((b + 100) + 5), .ref ((b + 100) + 6), .int (nI 0), .int (nI 0), .int (nI 0), .int (nI 0), .int (nI 0), .int (nI 0)])) := (hag9 _ (by omega)).trans hz4
          have hnht_40 : xTx F41 ((b + 100) + 1) (60) (0) ((fun _ => 0)) := xTx_fr hnht_40 (fun a9 q1 q2 => hag9 a9 (by omega))
          have hnhK_40 : xPk F41 ((b + 100)) ((cm.2.1)) (K00) := xPk_fr hnhK_40 (fun a9 q1 q2 => hag9 a9 (by omega))
          have hz7 : xTx F41 ((b + 107)) (32) (0) ((fun _ => 0)) := xTx_fr hz7 (fun a9 q1 q2 => hag9 a9 (by omega))
          have hz8 : xBt F41 ((b + 109)) (0) ((fun _ => 0)) := xBt_fr hz8 (fun a9 q1 q2 => hag9 a9 (by omega))
          have hz9 : xRg F41 ((b + 111)) := xRg_fr hz9 (fun a9 q1 q2 => hag9 a9 (by omega))
          have hz10 : xTx F41 ((b + 122)) (16) (0) ((fun _ => 0)) := xTx_fr hz10 (fun a9 q1 q2 => hag9 a9 (by omega))
          have hz11 : F41 (b + 124) = some (.inr (0, 17, fun b9 => .int (nI ((fun _ => 0) b9)))) := (hag9 _ (by omega)).trans hz11
          have hz12 : xSt F41 ((b + 125)) (aS0) := xSt_fr hz12 (fun a9 q1 q2 => hag9 a9 (by omega))
          have hz13 : xSt F41 ((b + 174)) (aS0) := xSt_fr hz13 (fun a9 q1 q2 => hag9 a9 (by omega))
          have hz14 : xSt F41 ((b + 223)) (aS0) := xSt_fr hz14 (fun a9 q1 q2 => hag9 a9 (by omega))
          have hz15 : xSt F41 ((b + 272)) (aS0) := j0
          have hag : ∀ a9 : Nat, (a9 < b ∨ b + 566 ≤ a9) → F41 a9 = F a9 := fun a9 q0 => (hag9 a9 (by omega)).trans (hag a9 q0)
          have hg_129 := hag9
          clear hag9
          refine x_aast hC hz3 (by decide) rfl hz15.1 rfl (j := 3) ⟨rfl, by omega, by omega⟩ d_MessageCoder_init_132 (f1 := updV gw38 (3) (.ref (b + 272))) rfl ?_
          generalize eg42 : updV gw38 (3) (.ref (b + 272)) = gw42
          generalize e43 : xup F41 (b + 99) (.inr (4, 9, gw42)) = F43
          have b0 : F43 (b) = some (.inl (9, [.ref (b + 1), .ref (b + 50), .ref (b + 99), .ref (b + 100), .ref (b + 107), .ref (b + 109), .ref (b + 111), .ref (b + 122), .ref (b + 124), .int (nI 0), .int (nI 0), .int (nI 0), .int (-1), .int (-1)])) := by rw [← e43]; exact (xup_ne (by omega)).trans b0
          have hz1 : xSt F43 ((b + 1)) (aS0) := xSt_fr hz1 (fun a9 q1 q2 => by rw [← e43]; exact xup_ne (by omega))
          have hz2 : xSt F43 ((b + 50)) (aS0) := xSt_fr hz2 (fun a9 q1 q2 => by rw [← e43]; exact xup_ne (by omega))
          have hz3 : F43 (b + 99) = some (.inr (4, 9, gw42)) := by rw [← e43]; exact xup_eq
          have hz4 : F43 (b + 100) = some (.inl (4, [.ref ((b + 100) + 1), .ref ((b + 100) + 3), .ref ((b + 100) + 4), .ref ((b + 100) + 5), .ref ((b + 100) + 6), .int (nI 0), .int (nI 0), .int (nI 0), .int (nI 0), .int (nI 0), .int (nI 0)])) := by rw [← e43]; exact (xup_ne (by omega)).trans hz4
          have hnht_40 : xTx F43 ((b + 100) + 1) (60) (0) ((fun _ => 0)) := xTx_fr hnht_40 (fun a9 q1 q2 => by rw [← e43]; exact xup_ne (by omega))
          have hnhK_40 : xPk F43 ((b + 100)) ((cm.2.1)) (K00) := xPk_fr hnhK_40 (fun a9 q1 q2 => by rw [← e43]; exact xup_ne (by omega))
          have hz7 : xTx F43 ((b + 107)) (32) (0) ((fun _ => 0)) := xTx_fr hz7 (fun a9 q1 q2 => by rw [← e43]; exact xup_ne (by omega))
          have hz8 : xBt F43 ((b + 109)) (0) ((fun _ => 0)) := xBt_fr hz8 (fun a9 q1 q2 => by rw [← e43]; exact xup_ne (by omega))
          have hz9 : xRg F43 ((b + 111)) := xRg_fr hz9 (fun a9 q1 q2 => by rw [← e43]; exact xup_ne (by omega))
          have hz10 : xTx F43 ((b + 122)) (16) (0) ((fun _ => 0)) := xTx_fr hz10 (fun a9 q1 q2 => by rw [← e43]; exact xup_ne (by omega))
          have hz11 : F43 (b + 124) = some (.inr (0, 17, fun b9 => .int (nI ((fun _ => 0) b9)))) := by rw [← e43]; exact (xup_ne (by omega)).trans hz11
          have hz12 : xSt F43 ((b + 125)) (aS0) := xSt_fr hz12 (fun a9 q1 q2 => by rw [← e43]; exact xup_ne (by omega))
          have hz13 : xSt F43 ((b + 174)) (aS0) := xSt_fr hz13 (fun a9 q1 q2 => by rw [← e43]; exact xup_ne (by omega))
          have hz14 : xSt F43 ((b + 223)) (aS0) := xSt_fr hz14 (fun a9 q1 q2 => by rw [← e43]; exact xup_ne (by omega))
          have hz15 : xSt F43 ((b + 272)) (aS0) := xSt_fr hz15 (fun a9 q1 q2 => by rw [← e43]; exact xup_ne (by omega))
          have hag : ∀ a9 : Nat, (a9 < b ∨ b + 566 ≤ a9) → F43 a9 = F a9 := fun a9 q0 => by rw [← e43]; exact (xup_ne (by omega)).trans (hag a9 q0)
          refine x_iinc hC d_MessageCoder_init_133 rfl (v := (nI (4))) (x_incN 1) (Nat.le_of_ble_eq_true rfl) (L1 := [some (.ref b), some (.int (nI 4))]) rfl ?_
          refine x_goto hC d_MessageCoder_init_136 (tgt := 114) (by decide) ?_
          refine x_iload_n hC d_MessageCoder_init_114 rfl rfl ?_
          refine x_bipush hC d_MessageCoder_init_115 (v := nI 9) (by decide) ?_
          refine x_icmpN_ge hC d_MessageCoder_init_117 (tgt := 139) (by decide) (by omega) (by omega) (fun c_117 => ?_) (fun c_117 => ?_)
          · skip
            exact absurd c_117 (by omega)
          · skip
            refine x_aload_n hC d_MessageCoder_init_120 rfl rfl ?_
            refine x_getf hC kf_MessageCoder_19 b0 rfl d_MessageCoder_init_121 ?_
            refine x_iload_n hC d_MessageCoder_init_124 rfl rfl ?_
            refine x_new hC (fs := [.null, .null, .null, .null, .null, .int (nI 0), .int (nI 0), .int (nI 0), .int (nI 0)]) kn_MessageCoder_9 (by decide) d_MessageCoder_init_125 ?_
            generalize e44 : xup F43 (b + 321) (.inl (7, [.null, .null, .null, .null, .null, .int (nI 0), .int (nI 0), .int (nI 0), .int (nI 0)])) = F44
            have b0 : F44 (b) = some (.inl (9, [.ref (b + 1), .ref (b + 50), .ref (b + 99), .ref (b + 100), .ref (b + 107), .ref (b + 109), .ref (b + 111), .ref (b + 122), .ref (b + 124), .int (nI 0), .int (nI 0), .int (nI 0), .int (-1), .int (-1)])) := by rw [← e44]; exact (xup_ne (by omega)).trans b0
            have hz1 : xSt F44 ((b + 1)) (aS0) := xSt_fr hz1 (fun a9 q1 q2 => by rw [← e44]; exact xup_ne (by omega))
            have hz2 : xSt F44 ((b + 50)) (aS0) := xSt_fr hz2 (fun a9 q1 q2 => by rw [← e44]; exact xup_ne (by omega))
            have hz3 : F44 (b + 99) = some (.inr (4, 9, gw42)) := by rw [← e44]; exact (xup_ne (by omega)).trans hz3
            have hz4 : F44 (b + 100) = some (.inl (4, [.ref ((b + 100) + 1), .ref ((b + 100) + 3), .ref ((b + 100) + 4), .ref ((b + 100) + 5), .ref ((b + 100) + 6), .int (nI 0), .int (nI 0), .int (nI 0), .int (nI 0), .int (nI 0), .int (nI 0)])) := by rw [← e44]; exact (xup_ne (by omega)).trans hz4
            have hnht_40 : xTx F44 ((b + 100) + 1) (60) (0) ((fun _ => 0)) := xTx_fr hnht_40 (fun a9 q1 q2 => by rw [← e44]; exact xup_ne (by omega))
            have hnhK_40 : xPk F44 ((b + 100)) ((cm.2.1)) (K00) := xPk_fr hnhK_40 (fun a9 q1 q2 => by rw [← e44]; exact xup_ne (by omega))
            have hz7 : xTx F44 ((b + 107)) (32) (0) ((fun _ => 0)) := xTx_fr hz7 (fun a9 q1 q2 => by rw [← e44]; exact xup_ne (by omega))
            have hz8 : xBt F44 ((b + 109)) (0) ((fun _ => 0)) := xBt_fr hz8 (fun a9 q1 q2 => by rw [← e44]; exact xup_ne (by omega))
            have hz9 : xRg F44 ((b + 111)) := xRg_fr hz9 (fun a9 q1 q2 => by rw [← e44]; exact xup_ne (by omega))
            have hz10 : xTx F44 ((b + 122)) (16) (0) ((fun _ => 0)) := xTx_fr hz10 (fun a9 q1 q2 => by rw [← e44]; exact xup_ne (by omega))
            have hz11 : F44 (b + 124) = some (.inr (0, 17, fun b9 => .int (nI ((fun _ => 0) b9)))) := by rw [← e44]; exact (xup_ne (by omega)).trans hz11
            have hz12 : xSt F44 ((b + 125)) (aS0) := xSt_fr hz12 (fun a9 q1 q2 => by rw [← e44]; exact xup_ne (by omega))
            have hz13 : xSt F44 ((b + 174)) (aS0) := xSt_fr hz13 (fun a9 q1 q2 => by rw [← e44]; exact xup_ne (by omega))
            have hz14 : xSt F44 ((b + 223)) (aS0) := xSt_fr hz14 (fun a9 q1 q2 => by rw [← e44]; exact xup_ne (by omega))
            have hz15 : xSt F44 ((b + 272)) (aS0) := xSt_fr hz15 (fun a9 q1 q2 => by rw [← e44]; exact xup_ne (by omega))
            have hz16 : F44 (b + 321) = some (.inl (7, [.null, .null, .null, .null, .null, .int (nI 0), .int (nI 0), .int (nI 0), .int (nI 0)])) := by rw [← e44]; exact xup_eq
            have hag : ∀ a9 : Nat, (a9 < b ∨ b + 566 ≤ a9) → F44 a9 = F a9 := fun a9 q0 => by rw [← e44]; exact (xup_ne (by omega)).trans (hag a9 q0)
            refine x_dup hC d_MessageCoder_init_128 rfl ?_
            refine x_callI hC ki_MessageCoder_11 rfl (c_State_init (h0 := hz16)) (by decide) rfl rfl rfl (Nat.le_of_ble_eq_true rfl) (by decide) d_MessageCoder_init_129 (fun r9 F9 z9 hp9 => ?_)
            obtain ⟨rfl, h9c, j0, hag9⟩ := hp9
            rw [h9c]
            clear h9c z9
            generalize F9 = F45 at *
            have b0 : F45 (b) = some (.inl (9, [.ref (b + 1), .ref (b + 50), .ref (b + 99), .ref (b + 100), .ref (b + 107), .ref (b + 109), .ref (b + 111), .ref (b + 122), .ref (b + 124), .int (nI 0), .int (nI 0), .int (nI 0), .int (-1), .int (-1)])) := (hag9 _ (by omega)).trans b0
            have hz1 : xSt F45 ((b + 1)) (aS0) := xSt_fr hz1 (fun a9 q1 q2 => hag9 a9 (by omega))
            have hz2 : xSt F45 ((b + 50)) (aS0) := xSt_fr hz2 (fun a9 q1 q2 => hag9 a9 (by omega))
            have hz3 : F45 (b + 99) = some (.inr (4, 9, gw42)) := (hag9 _ (by omega)).trans hz3
            have hz4 : F45 (b + 100) = some (.inl (4, [.ref ((b + 100) + 1), .ref ((b + 100) + 3), .ref ((b + 100) + 4), .ref ((b + 100) + 5), .ref ((b + 100) + 6), .int (nI 0), .int (nI 0), .int (nI 0), .int (nI 0), .int (nI 0), .int (nI 0)])) := (hag9 _ (by omega)).trans hz4
            have hnht_40 : xTx F45 ((b + 100) + 1) (60) (0) ((fun _ => 0)) := xTx_fr hnht_40 (fun a9 q1 q2 => hag9 a9 (by omega))
            have hnhK_40 : xPk F45 ((b + 100)) ((cm.2.1)) (K00) := xPk_fr hnhK_40 (fun a9 q1 q2 => hag9 a9 (by omega))
            have hz7 : xTx F45 ((b + 107)) (32) (0) ((fun _ => 0)) := xTx_fr hz7 (fun a9 q1 q2 => hag9 a9 (by omega))
            have hz8 : xBt F45 ((b + 109)) (0) ((fun _ => 0)) := xBt_fr hz8 (fun a9 q1 q2 => hag9 a9 (by omega))
            have hz9 : xRg F45 ((b + 111)) := xRg_fr hz9 (fun a9 q1 q2 => hag9 a9 (by omega))
            have hz10 : xTx F45 ((b + 122)) (16) (0) ((fun _ => 0)) := xTx_fr hz10 (fun a9 q1 q2 => hag9 a9 (by omega))
            have hz11 : F45 (b + 124) = some (.inr (0, 17, fun b9 => .int (nI ((fun _ => 0) b9)))) := (hag9 _ (by omega)).trans hz11
            have hz12 : xSt F45 ((b + 125)) (aS0) := xSt_fr hz12 (fun a9 q1 q2 => hag9 a9 (by omega))
            have hz13 : xSt F45 ((b + 174)) (aS0) := xSt_fr hz13 (fun a9 q1 q2 => hag9 a9 (by omega))
            have hz14 : xSt F45 ((b + 223)) (aS0) := xSt_fr hz14 (fun a9 q1 q2 => hag9 a9 (by omega))
            have hz15 : xSt F45 ((b + 272)) (aS0) := xSt_fr hz15 (fun a9 q1 q2 => hag9 a9 (by omega))
            have hz16 : xSt F45 ((b + 321)) (aS0) := j0
            have hag : ∀ a9 : Nat, (a9 < b ∨ b + 566 ≤ a9) → F45 a9 = F a9 := fun a9 q0 => (hag9 a9 (by omega)).trans (hag a9 q0)
            have hg_129 := hag9
            clear hag9
            refine x_aast hC hz3 (by decide) rfl hz16.1 rfl (j := 4) ⟨rfl, by omega, by omega⟩ d_MessageCoder_init_132 (f1 := updV gw42 (4) (.ref (b + 321))) rfl ?_
            generalize eg46 : updV gw42 (4) (.ref (b + 321)) = gw46
            generalize e47 : xup F45 (b + 99) (.inr (4, 9, gw46)) = F47
            have b0 : F47 (b) = some (.inl (9, [.ref (b + 1), .ref (b + 50), .ref (b + 99), .ref (b + 100), .ref (b + 107), .ref (b + 109), .ref (b + 111), .ref (b + 122), .ref (b + 124), .int (nI 0), .int (nI 0), .int (nI 0), .int (-1), .int (-1)])) := by rw [← e47]; exact (xup_ne (by omega)).trans b0
            have hz1 : xSt F47 ((b + 1)) (aS0) := xSt_fr hz1 (fun a9 q1 q2 => by rw [← e47]; exact xup_ne (by omega))
            have hz2 : xSt F47 ((b + 50)) (aS0) := xSt_fr hz2 (fun a9 q1 q2 => by rw [← e47]; exact xup_ne (by omega))
            have hz3 : F47 (b + 99) = some (.inr (4, 9, gw46)) := by rw [← e47]; exact xup_eq
            have hz4 : F47 (b + 100) = some (.inl (4, [.ref ((b + 100) + 1), .ref ((b + 100) + 3), .ref ((b + 100) + 4), .ref ((b + 100) + 5), .ref ((b + 100) + 6), .int (nI 0), .int (nI 0), .int (nI 0), .int (nI 0), .int (nI 0), .int (nI 0)])) := by rw [← e47]; exact (xup_ne (by omega)).trans hz4
            have hnht_40 : xTx F47 ((b + 100) + 1) (60) (0) ((fun _ => 0)) := xTx_fr hnht_40 (fun a9 q1 q2 => by rw [← e47]; exact xup_ne (by omega))
            have hnhK_40 : xPk F47 ((b + 100)) ((cm.2.1)) (K00) := xPk_fr hnhK_40 (fun a9 q1 q2 => by rw [← e47]; exact xup_ne (by omega))
            have hz7 : xTx F47 ((b + 107)) (32) (0) ((fun _ => 0)) := xTx_fr hz7 (fun a9 q1 q2 => by rw [← e47]; exact xup_ne (by omega))
            have hz8 : xBt F47 ((b + 109)) (0) ((fun _ => 0)) := xBt_fr hz8 (fun a9 q1 q2 => by rw [← e47]; exact xup_ne (by omega))
            have hz9 : xRg F47 ((b + 111)) := xRg_fr hz9 (fun a9 q1 q2 => by rw [← e47]; exact xup_ne (by omega))
            have hz10 : xTx F47 ((b + 122)) (16) (0) ((fun _ => 0)) := xTx_fr hz10 (fun a9 q1 q2 => by rw [← e47]; exact xup_ne (by omega))
            have hz11 : F47 (b + 124) = some (.inr (0, 17, fun b9 => .int (nI ((fun _ => 0) b9)))) := by rw [← e47]; exact (xup_ne (by omega)).trans hz11
            have hz12 : xSt F47 ((b + 125)) (aS0) := xSt_fr hz12 (fun a9 q1 q2 => by rw [← e47]; exact xup_ne (by omega))
            have hz13 : xSt F47 ((b + 174)) (aS0) := xSt_fr hz13 (fun a9 q1 q2 => by rw [← e47]; exact xup_ne (by omega))
            have hz14 : xSt F47 ((b + 223)) (aS0) := xSt_fr hz14 (fun a9 q1 q2 => by rw [← e47]; exact xup_ne (by omega))
            have hz15 : xSt F47 ((b + 272)) (aS0) := xSt_fr hz15 (fun a9 q1 q2 => by rw [← e47]; exact xup_ne (by omega))
            have hz16 : xSt F47 ((b + 321)) (aS0) := xSt_fr hz16 (fun a9 q1 q2 => by rw [← e47]; exact xup_ne (by omega))
            have hag : ∀ a9 : Nat, (a9 < b ∨ b + 566 ≤ a9) → F47 a9 = F a9 := fun a9 q0 => by rw [← e47]; exact (xup_ne (by omega)).trans (hag a9 q0)
            refine x_iinc hC d_MessageCoder_init_133 rfl (v := (nI (5))) (x_incN 1) (Nat.le_of_ble_eq_true rfl) (L1 := [some (.ref b), some (.int (nI 5))]) rfl ?_
            refine x_goto hC d_MessageCoder_init_136 (tgt := 114) (by decide) ?_
            refine x_iload_n hC d_MessageCoder_init_114 rfl rfl ?_
            refine x_bipush hC d_MessageCoder_init_115 (v := nI 9) (by decide) ?_
            refine x_icmpN_ge hC d_MessageCoder_init_117 (tgt := 139) (by decide) (by omega) (by omega) (fun c_117 => ?_) (fun c_117 => ?_)
            · skip
              exact absurd c_117 (by omega)
            · skip
              refine x_aload_n hC d_MessageCoder_init_120 rfl rfl ?_
              refine x_getf hC kf_MessageCoder_19 b0 rfl d_MessageCoder_init_121 ?_
              refine x_iload_n hC d_MessageCoder_init_124 rfl rfl ?_
              refine x_new hC (fs := [.null, .null, .null, .null, .null, .int (nI 0), .int (nI 0), .int (nI 0), .int (nI 0)]) kn_MessageCoder_9 (by decide) d_MessageCoder_init_125 ?_
              generalize e48 : xup F47 (b + 370) (.inl (7, [.null, .null, .null, .null, .null, .int (nI 0), .int (nI 0), .int (nI 0), .int (nI 0)])) = F48
              have b0 : F48 (b) = some (.inl (9, [.ref (b + 1), .ref (b + 50), .ref (b + 99), .ref (b + 100), .ref (b + 107), .ref (b + 109), .ref (b + 111), .ref (b + 122), .ref (b + 124), .int (nI 0), .int (nI 0), .int (nI 0), .int (-1), .int (-1)])) := by rw [← e48]; exact (xup_ne (by omega)).trans b0
              have hz1 : xSt F48 ((b + 1)) (aS0) := xSt_fr hz1 (fun a9 q1 q2 => by rw [← e48]; exact xup_ne (by omega))
              have hz2 : xSt F48 ((b + 50)) (aS0) := xSt_fr hz2 (fun a9 q1 q2 => by rw [← e48]; exact xup_ne (by omega))
              have hz3 : F48 (b + 99) = some (.inr (4, 9, gw46)) := by rw [← e48]; exact (xup_ne (by omega)).trans hz3
              have hz4 : F48 (b + 100) = some (.inl (4, [.ref ((b + 100) + 1), .ref ((b + 100) + 3), .ref ((b + 100) + 4), .ref ((b + 100) + 5), .ref ((b + 100) + 6), .int (nI 0), .int (nI 0), .int (nI 0), .int (nI 0), .int (nI 0), .int (nI 0)])) := by rw [← e48]; exact (xup_ne (by omega)).trans hz4
              have hnht_40 : xTx F48 ((b + 100) + 1) (60) (0) ((fun _ => 0)) := xTx_fr hnht_40 (fun a9 q1 q2 => by rw [← e48]; exact xup_ne (by omega))
              have hnhK_40 : xPk F48 ((b + 100)) ((cm.2.1)) (K00) := xPk_fr hnhK_40 (fun a9 q1 q2 => by rw [← e48]; exact xup_ne (by omega))
              have hz7 : xTx F48 ((b + 107)) (32) (0) ((fun _ => 0)) := xTx_fr hz7 (fun a9 q1 q2 => by rw [← e48]; exact xup_ne (by omega))
              have hz8 : xBt F48 ((b + 109)) (0) ((fun _ => 0)) := xBt_fr hz8 (fun a9 q1 q2 => by rw [← e48]; exact xup_ne (by omega))
              have hz9 : xRg F48 ((b + 111)) := xRg_fr hz9 (fun a9 q1 q2 => by rw [← e48]; exact xup_ne (by omega))
              have hz10 : xTx F48 ((b + 122)) (16) (0) ((fun _ => 0)) := xTx_fr hz10 (fun a9 q1 q2 => by rw [← e48]; exact xup_ne (by omega))
              have hz11 : F48 (b + 124) = some (.inr (0, 17, fun b9 => .int (nI ((fun _ => 0) b9)))) := by rw [← e48]; exact (xup_ne (by omega)).trans hz11
              have hz12 : xSt F48 ((b + 125)) (aS0) := xSt_fr hz12 (fun a9 q1 q2 => by rw [← e48]; exact xup_ne (by omega))
              have hz13 : xSt F48 ((b + 174)) (aS0) := xSt_fr hz13 (fun a9 q1 q2 => by rw [← e48]; exact xup_ne (by omega))
              have hz14 : xSt F48 ((b + 223)) (aS0) := xSt_fr hz14 (fun a9 q1 q2 => by rw [← e48]; exact xup_ne (by omega))
              have hz15 : xSt F48 ((b + 272)) (aS0) := xSt_fr hz15 (fun a9 q1 q2 => by rw [← e48]; exact xup_ne (by omega))
              have hz16 : xSt F48 ((b + 321)) (aS0) := xSt_fr hz16 (fun a9 q1 q2 => by rw [← e48]; exact xup_ne (by omega))
              have hz17 : F48 (b + 370) = some (.inl (7, [.null, .null, .null, .null, .null, .int (nI 0), .int (nI 0), .int (nI 0), .int (nI 0)])) := by rw [← e48]; exact xup_eq
              have hag : ∀ a9 : Nat, (a9 < b ∨ b + 566 ≤ a9) → F48 a9 = F a9 := fun a9 q0 => by rw [← e48]; exact (xup_ne (by omega)).trans (hag a9 q0)
              refine x_dup hC d_MessageCoder_init_128 rfl ?_
              refine x_callI hC ki_MessageCoder_11 rfl (c_State_init (h0 := hz17)) (by decide) rfl rfl rfl (Nat.le_of_ble_eq_true rfl) (by decide) d_MessageCoder_init_129 (fun r9 F9 z9 hp9 => ?_)
              obtain ⟨rfl, h9c, j0, hag9⟩ := hp9
              rw [h9c]
              clear h9c z9
              generalize F9 = F49 at *
              have b0 : F49 (b) = some (.inl (9, [.ref (b + 1), .ref (b + 50), .ref (b + 99), .ref (b + 100), .ref (b + 107), .ref (b + 109), .ref (b + 111), .ref (b + 122), .ref (b + 124), .int (nI 0), .int (nI 0), .int (nI 0), .int (-1), .int (-1)])) := (hag9 _ (by omega)).trans b0
              have hz1 : xSt F49 ((b + 1)) (aS0) := xSt_fr hz1 (fun a9 q1 q2 => hag9 a9 (by omega))
              have hz2 : xSt F49 ((b + 50)) (aS0) := xSt_fr hz2 (fun a9 q1 q2 => hag9 a9 (by omega))
              have hz3 : F49 (b + 99) = some (.inr (4, 9, gw46)) := (hag9 _ (by omega)).trans hz3
              have hz4 : F49 (b + 100) = some (.inl (4, [.ref ((b + 100) + 1), .ref ((b + 100) + 3), .ref ((b + 100) + 4), .ref ((b + 100) + 5), .ref ((b + 100) + 6), .int (nI 0), .int (nI 0), .int (nI 0), .int (nI 0), .int (nI 0), .int (nI 0)])) := (hag9 _ (by omega)).trans hz4
              have hnht_40 : xTx F49 ((b + 100) + 1) (60) (0) ((fun _ => 0)) := xTx_fr hnht_40 (fun a9 q1 q2 => hag9 a9 (by omega))
              have hnhK_40 : xPk F49 ((b + 100)) ((cm.2.1)) (K00) := xPk_fr hnhK_40 (fun a9 q1 q2 => hag9 a9 (by omega))
              have hz7 : xTx F49 ((b + 107)) (32) (0) ((fun _ => 0)) := xTx_fr hz7 (fun a9 q1 q2 => hag9 a9 (by omega))
              have hz8 : xBt F49 ((b + 109)) (0) ((fun _ => 0)) := xBt_fr hz8 (fun a9 q1 q2 => hag9 a9 (by omega))
              have hz9 : xRg F49 ((b + 111)) := xRg_fr hz9 (fun a9 q1 q2 => hag9 a9 (by omega))
              have hz10 : xTx F49 ((b + 122)) (16) (0) ((fun _ => 0)) := xTx_fr hz10 (fun a9 q1 q2 => hag9 a9 (by omega))
              have hz11 : F49 (b + 124) = some (.inr (0, 17, fun b9 => .int (nI ((fun _ => 0) b9)))) := (hag9 _ (by omega)).trans hz11
              have hz12 : xSt F49 ((b + 125)) (aS0) := xSt_fr hz12 (fun a9 q1 q2 => hag9 a9 (by omega))
              have hz13 : xSt F49 ((b + 174)) (aS0) := xSt_fr hz13 (fun a9 q1 q2 => hag9 a9 (by omega))
              have hz14 : xSt F49 ((b + 223)) (aS0) := xSt_fr hz14 (fun a9 q1 q2 => hag9 a9 (by omega))
              have hz15 : xSt F49 ((b + 272)) (aS0) := xSt_fr hz15 (fun a9 q1 q2 => hag9 a9 (by omega))
              have hz16 : xSt F49 ((b + 321)) (aS0) := xSt_fr hz16 (fun a9 q1 q2 => hag9 a9 (by omega))
              have hz17 : xSt F49 ((b + 370)) (aS0) := j0
              have hag : ∀ a9 : Nat, (a9 < b ∨ b + 566 ≤ a9) → F49 a9 = F a9 := fun a9 q0 => (hag9 a9 (by omega)).trans (hag a9 q0)
              have hg_129 := hag9
              clear hag9
              refine x_aast hC hz3 (by decide) rfl hz17.1 rfl (j := 5) ⟨rfl, by omega, by omega⟩ d_MessageCoder_init_132 (f1 := updV gw46 (5) (.ref (b + 370))) rfl ?_
              generalize eg50 : updV gw46 (5) (.ref (b + 370)) = gw50
              generalize e51 : xup F49 (b + 99) (.inr (4, 9, gw50)) = F51
              have b0 : F51 (b) = some (.inl (9, [.ref (b + 1), .ref (b + 50), .ref (b + 99), .ref (b + 100), .ref (b + 107), .ref (b + 109), .ref (b + 111), .ref (b + 122), .ref (b + 124), .int (nI 0), .int (nI 0), .int (nI 0), .int (-1), .int (-1)])) := by rw [← e51]; exact (xup_ne (by omega)).trans b0
              have hz1 : xSt F51 ((b + 1)) (aS0) := xSt_fr hz1 (fun a9 q1 q2 => by rw [← e51]; exact xup_ne (by omega))
              have hz2 : xSt F51 ((b + 50)) (aS0) := xSt_fr hz2 (fun a9 q1 q2 => by rw [← e51]; exact xup_ne (by omega))
              have hz3 : F51 (b + 99) = some (.inr (4, 9, gw50)) := by rw [← e51]; exact xup_eq
              have hz4 : F51 (b + 100) = some (.inl (4, [.ref ((b + 100) + 1), .ref ((b + 100) + 3), .ref ((b + 100) + 4), .ref ((b + 100) + 5), .ref ((b + 100) + 6), .int (nI 0), .int (nI 0), .int (nI 0), .int (nI 0), .int (nI 0), .int (nI 0)])) := by rw [← e51]; exact (xup_ne (by omega)).trans hz4
              have hnht_40 : xTx F51 ((b + 100) + 1) (60) (0) ((fun _ => 0)) := xTx_fr hnht_40 (fun a9 q1 q2 => by rw [← e51]; exact xup_ne (by omega))
              have hnhK_40 : xPk F51 ((b + 100)) ((cm.2.1)) (K00) := xPk_fr hnhK_40 (fun a9 q1 q2 => by rw [← e51]; exact xup_ne (by omega))
              have hz7 : xTx F51 ((b + 107)) (32) (0) ((fun _ => 0)) := xTx_fr hz7 (fun a9 q1 q2 => by rw [← e51]; exact xup_ne (by omega))
              have hz8 : xBt F51 ((b + 109)) (0) ((fun _ => 0)) := xBt_fr hz8 (fun a9 q1 q2 => by rw [← e51]; exact xup_ne (by omega))
              have hz9 : xRg F51 ((b + 111)) := xRg_fr hz9 (fun a9 q1 q2 => by rw [← e51]; exact xup_ne (by omega))
              have hz10 : xTx F51 ((b + 122)) (16) (0) ((fun _ => 0)) := xTx_fr hz10 (fun a9 q1 q2 => by rw [← e51]; exact xup_ne (by omega))
              have hz11 : F51 (b + 124) = some (.inr (0, 17, fun b9 => .int (nI ((fun _ => 0) b9)))) := by rw [← e51]; exact (xup_ne (by omega)).trans hz11
              have hz12 : xSt F51 ((b + 125)) (aS0) := xSt_fr hz12 (fun a9 q1 q2 => by rw [← e51]; exact xup_ne (by omega))
              have hz13 : xSt F51 ((b + 174)) (aS0) := xSt_fr hz13 (fun a9 q1 q2 => by rw [← e51]; exact xup_ne (by omega))
              have hz14 : xSt F51 ((b + 223)) (aS0) := xSt_fr hz14 (fun a9 q1 q2 => by rw [← e51]; exact xup_ne (by omega))
              have hz15 : xSt F51 ((b + 272)) (aS0) := xSt_fr hz15 (fun a9 q1 q2 => by rw [← e51]; exact xup_ne (by omega))
              have hz16 : xSt F51 ((b + 321)) (aS0) := xSt_fr hz16 (fun a9 q1 q2 => by rw [← e51]; exact xup_ne (by omega))
              have hz17 : xSt F51 ((b + 370)) (aS0) := xSt_fr hz17 (fun a9 q1 q2 => by rw [← e51]; exact xup_ne (by omega))
              have hag : ∀ a9 : Nat, (a9 < b ∨ b + 566 ≤ a9) → F51 a9 = F a9 := fun a9 q0 => by rw [← e51]; exact (xup_ne (by omega)).trans (hag a9 q0)
              refine x_iinc hC d_MessageCoder_init_133 rfl (v := (nI (6))) (x_incN 1) (Nat.le_of_ble_eq_true rfl) (L1 := [some (.ref b), some (.int (nI 6))]) rfl ?_
              refine x_goto hC d_MessageCoder_init_136 (tgt := 114) (by decide) ?_
              refine x_iload_n hC d_MessageCoder_init_114 rfl rfl ?_
              refine x_bipush hC d_MessageCoder_init_115 (v := nI 9) (by decide) ?_
              refine x_icmpN_ge hC d_MessageCoder_init_117 (tgt := 139) (by decide) (by omega) (by omega) (fun c_117 => ?_) (fun c_117 => ?_)
              · skip
                exact absurd c_117 (by omega)
              · skip
                refine x_aload_n hC d_MessageCoder_init_120 rfl rfl ?_
                refine x_getf hC kf_MessageCoder_19 b0 rfl d_MessageCoder_init_121 ?_
                refine x_iload_n hC d_MessageCoder_init_124 rfl rfl ?_
                refine x_new hC (fs := [.null, .null, .null, .null, .null, .int (nI 0), .int (nI 0), .int (nI 0), .int (nI 0)]) kn_MessageCoder_9 (by decide) d_MessageCoder_init_125 ?_
                generalize e52 : xup F51 (b + 419) (.inl (7, [.null, .null, .null, .null, .null, .int (nI 0), .int (nI 0), .int (nI 0), .int (nI 0)])) = F52
                have b0 : F52 (b) = some (.inl (9, [.ref (b + 1), .ref (b + 50), .ref (b + 99), .ref (b + 100), .ref (b + 107), .ref (b + 109), .ref (b + 111), .ref (b + 122), .ref (b + 124), .int (nI 0), .int (nI 0), .int (nI 0), .int (-1), .int (-1)])) := by rw [← e52]; exact (xup_ne (by omega)).trans b0
                have hz1 : xSt F52 ((b + 1)) (aS0) := xSt_fr hz1 (fun a9 q1 q2 => by rw [← e52]; exact xup_ne (by omega))
                have hz2 : xSt F52 ((b + 50)) (aS0) := xSt_fr hz2 (fun a9 q1 q2 => by rw [← e52]; exact xup_ne (by omega))
                have hz3 : F52 (b + 99) = some (.inr (4, 9, gw50)) := by rw [← e52]; exact (xup_ne (by omega)).trans hz3
                have hz4 : F52 (b + 100) = some (.inl (4, [.ref ((b + 100) + 1), .ref ((b + 100) + 3), .ref ((b + 100) + 4), .ref ((b + 100) + 5), .ref ((b + 100) + 6), .int (nI 0), .int (nI 0), .int (nI 0), .int (nI 0), .int (nI 0), .int (nI 0)])) := by rw [← e52]; exact (xup_ne (by omega)).trans hz4
                have hnht_40 : xTx F52 ((b + 100) + 1) (60) (0) ((fun _ => 0)) := xTx_fr hnht_40 (fun a9 q1 q2 => by rw [← e52]; exact xup_ne (by omega))
                have hnhK_40 : xPk F52 ((b + 100)) ((cm.2.1)) (K00) := xPk_fr hnhK_40 (fun a9 q1 q2 => by rw [← e52]; exact xup_ne (by omega))
                have hz7 : xTx F52 ((b + 107)) (32) (0) ((fun _ => 0)) := xTx_fr hz7 (fun a9 q1 q2 => by rw [← e52]; exact xup_ne (by omega))
                have hz8 : xBt F52 ((b + 109)) (0) ((fun _ => 0)) := xBt_fr hz8 (fun a9 q1 q2 => by rw [← e52]; exact xup_ne (by omega))
                have hz9 : xRg F52 ((b + 111)) := xRg_fr hz9 (fun a9 q1 q2 => by rw [← e52]; exact xup_ne (by omega))
                have hz10 : xTx F52 ((b + 122)) (16) (0) ((fun _ => 0)) := xTx_fr hz10 (fun a9 q1 q2 => by rw [← e52]; exact xup_ne (by omega))
                have hz11 : F52 (b + 124) = some (.inr (0, 17, fun b9 => .int (nI ((fun _ => 0) b9)))) := by rw [← e52]; exact (xup_ne (by omega)).trans hz11
                have hz12 : xSt F52 ((b + 125)) (aS0) := xSt_fr hz12 (fun a9 q1 q2 => by rw [← e52]; exact xup_ne (by omega))
                have hz13 : xSt F52 ((b + 174)) (aS0) := xSt_fr hz13 (fun a9 q1 q2 => by rw [← e52]; exact xup_ne (by omega))
                have hz14 : xSt F52 ((b + 223)) (aS0) := xSt_fr hz14 (fun a9 q1 q2 => by rw [← e52]; exact xup_ne (by omega))
                have hz15 : xSt F52 ((b + 272)) (aS0) := xSt_fr hz15 (fun a9 q1 q2 => by rw [← e52]; exact xup_ne (by omega))
                have hz16 : xSt F52 ((b + 321)) (aS0) := xSt_fr hz16 (fun a9 q1 q2 => by rw [← e52]; exact xup_ne (by omega))
                have hz17 : xSt F52 ((b + 370)) (aS0) := xSt_fr hz17 (fun a9 q1 q2 => by rw [← e52]; exact xup_ne (by omega))
                have hz18 : F52 (b + 419) = some (.inl (7, [.null, .null, .null, .null, .null, .int (nI 0), .int (nI 0), .int (nI 0), .int (nI 0)])) := by rw [← e52]; exact xup_eq
                have hag : ∀ a9 : Nat, (a9 < b ∨ b + 566 ≤ a9) → F52 a9 = F a9 := fun a9 q0 => by rw [← e52]; exact (xup_ne (by omega)).trans (hag a9 q0)
                refine x_dup hC d_MessageCoder_init_128 rfl ?_
                refine x_callI hC ki_MessageCoder_11 rfl (c_State_init (h0 := hz18)) (by decide) rfl rfl rfl (Nat.le_of_ble_eq_true rfl) (by decide) d_MessageCoder_init_129 (fun r9 F9 z9 hp9 => ?_)
                obtain ⟨rfl, h9c, j0, hag9⟩ := hp9
                rw [h9c]
                clear h9c z9
                generalize F9 = F53 at *
                have b0 : F53 (b) = some (.inl (9, [.ref (b + 1), .ref (b + 50), .ref (b + 99), .ref (b + 100), .ref (b + 107), .ref (b + 109), .ref (b + 111), .ref (b + 122), .ref (b + 124), .int (nI 0), .int (nI 0), .int (nI 0), .int (-1), .int (-1)])) := (hag9 _ (by omega)).trans b0
                have hz1 : xSt F53 ((b + 1)) (aS0) := xSt_fr hz1 (fun a9 q1 q2 => hag9 a9 (by omega))
                have hz2 : xSt F53 ((b + 50)) (aS0) := xSt_fr hz2 (fun a9 q1 q2 => hag9 a9 (by omega))
                have hz3 : F53 (b + 99) = some (.inr (4, 9, gw50)) := (hag9 _ (by omega)).trans hz3
                have hz4 : F53 (b + 100) = some (.inl (4, [.ref ((b + 100) + 1), .ref ((b + 100) + 3), .ref ((b + 100) + 4), .ref ((b + 100) + 5), .ref ((b + 100) + 6), .int (nI 0), .int (nI 0), .int (nI 0), .int (nI 0), .int (nI 0), .int (nI 0)])) := (hag9 _ (by omega)).trans hz4
                have hnht_40 : xTx F53 ((b + 100) + 1) (60) (0) ((fun _ => 0)) := xTx_fr hnht_40 (fun a9 q1 q2 => hag9 a9 (by omega))
                have hnhK_40 : xPk F53 ((b + 100)) ((cm.2.1)) (K00) := xPk_fr hnhK_40 (fun a9 q1 q2 => hag9 a9 (by omega))
                have hz7 : xTx F53 ((b + 107)) (32) (0) ((fun _ => 0)) := xTx_fr hz7 (fun a9 q1 q2 => hag9 a9 (by omega))
                have hz8 : xBt F53 ((b + 109)) (0) ((fun _ => 0)) := xBt_fr hz8 (fun a9 q1 q2 => hag9 a9 (by omega))
                have hz9 : xRg F53 ((b + 111)) := xRg_fr hz9 (fun a9 q1 q2 => hag9 a9 (by omega))
                have hz10 : xTx F53 ((b + 122)) (16) (0) ((fun _ => 0)) := xTx_fr hz10 (fun a9 q1 q2 => hag9 a9 (by omega))
                have hz11 : F53 (b + 124) = some (.inr (0, 17, fun b9 => .int (nI ((fun _ => 0) b9)))) := (hag9 _ (by omega)).trans hz11
                have hz12 : xSt F53 ((b + 125)) (aS0) := xSt_fr hz12 (fun a9 q1 q2 => hag9 a9 (by omega))
                have hz13 : xSt F53 ((b + 174)) (aS0) := xSt_fr hz13 (fun a9 q1 q2 => hag9 a9 (by omega))
                have hz14 : xSt F53 ((b + 223)) (aS0) := xSt_fr hz14 (fun a9 q1 q2 => hag9 a9 (by omega))
                have hz15 : xSt F53 ((b + 272)) (aS0) := xSt_fr hz15 (fun a9 q1 q2 => hag9 a9 (by omega))
                have hz16 : xSt F53 ((b + 321)) (aS0) := xSt_fr hz16 (fun a9 q1 q2 => hag9 a9 (by omega))
                have hz17 : xSt F53 ((b + 370)) (aS0) := xSt_fr hz17 (fun a9 q1 q2 => hag9 a9 (by omega))
                have hz18 : xSt F53 ((b + 419)) (aS0) := j0
                have hag : ∀ a9 : Nat, (a9 < b ∨ b + 566 ≤ a9) → F53 a9 = F a9 := fun a9 q0 => (hag9 a9 (by omega)).trans (hag a9 q0)
                have hg_129 := hag9
                clear hag9
                refine x_aast hC hz3 (by decide) rfl hz18.1 rfl (j := 6) ⟨rfl, by omega, by omega⟩ d_MessageCoder_init_132 (f1 := updV gw50 (6) (.ref (b + 419))) rfl ?_
                generalize eg54 : updV gw50 (6) (.ref (b + 419)) = gw54
                generalize e55 : xup F53 (b + 99) (.inr (4, 9, gw54)) = F55
                have b0 : F55 (b) = some (.inl (9, [.ref (b + 1), .ref (b + 50), .ref (b + 99), .ref (b + 100), .ref (b + 107), .ref (b + 109), .ref (b + 111), .ref (b + 122), .ref (b + 124), .int (nI 0), .int (nI 0), .int (nI 0), .int (-1), .int (-1)])) := by rw [← e55]; exact (xup_ne (by omega)).trans b0
                have hz1 : xSt F55 ((b + 1)) (aS0) := xSt_fr hz1 (fun a9 q1 q2 => by rw [← e55]; exact xup_ne (by omega))
                have hz2 : xSt F55 ((b + 50)) (aS0) := xSt_fr hz2 (fun a9 q1 q2 => by rw [← e55]; exact xup_ne (by omega))
                have hz3 : F55 (b + 99) = some (.inr (4, 9, gw54)) := by rw [← e55]; exact xup_eq
                have hz4 : F55 (b + 100) = some (.inl (4, [.ref ((b + 100) + 1), .ref ((b + 100) + 3), .ref ((b + 100) + 4), .ref ((b + 100) + 5), .ref ((b + 100) + 6), .int (nI 0), .int (nI 0), .int (nI 0), .int (nI 0), .int (nI 0), .int (nI 0)])) := by rw [← e55]; exact (xup_ne (by omega)).trans hz4
                have hnht_40 : xTx F55 ((b + 100) + 1) (60) (0) ((fun _ => 0)) := xTx_fr hnht_40 (fun a9 q1 q2 => by rw [← e55]; exact xup_ne (by omega))
                have hnhK_40 : xPk F55 ((b + 100)) ((cm.2.1)) (K00) := xPk_fr hnhK_40 (fun a9 q1 q2 => by rw [← e55]; exact xup_ne (by omega))
                have hz7 : xTx F55 ((b + 107)) (32) (0) ((fun _ => 0)) := xTx_fr hz7 (fun a9 q1 q2 => by rw [← e55]; exact xup_ne (by omega))
                have hz8 : xBt F55 ((b + 109)) (0) ((fun _ => 0)) := xBt_fr hz8 (fun a9 q1 q2 => by rw [← e55]; exact xup_ne (by omega))
                have hz9 : xRg F55 ((b + 111)) := xRg_fr hz9 (fun a9 q1 q2 => by rw [← e55]; exact xup_ne (by omega))
                have hz10 : xTx F55 ((b + 122)) (16) (0) ((fun _ => 0)) := xTx_fr hz10 (fun a9 q1 q2 => by rw [← e55]; exact xup_ne (by omega))
                have hz11 : F55 (b + 124) = some (.inr (0, 17, fun b9 => .int (nI ((fun _ => 0) b9)))) := by rw [← e55]; exact (xup_ne (by omega)).trans hz11
                have hz12 : xSt F55 ((b + 125)) (aS0) := xSt_fr hz12 (fun a9 q1 q2 => by rw [← e55]; exact xup_ne (by omega))
                have hz13 : xSt F55 ((b + 174)) (aS0) := xSt_fr hz13 (fun a9 q1 q2 => by rw [← e55]; exact xup_ne (by omega))
                have hz14 : xSt F55 ((b + 223)) (aS0) := xSt_fr hz14 (fun a9 q1 q2 => by rw [← e55]; exact xup_ne (by omega))
                have hz15 : xSt F55 ((b + 272)) (aS0) := xSt_fr hz15 (fun a9 q1 q2 => by rw [← e55]; exact xup_ne (by omega))
                have hz16 : xSt F55 ((b + 321)) (aS0) := xSt_fr hz16 (fun a9 q1 q2 => by rw [← e55]; exact xup_ne (by omega))
                have hz17 : xSt F55 ((b + 370)) (aS0) := xSt_fr hz17 (fun a9 q1 q2 => by rw [← e55]; exact xup_ne (by omega))
                have hz18 : xSt F55 ((b + 419)) (aS0) := xSt_fr hz18 (fun a9 q1 q2 => by rw [← e55]; exact xup_ne (by omega))
                have hag : ∀ a9 : Nat, (a9 < b ∨ b + 566 ≤ a9) → F55 a9 = F a9 := fun a9 q0 => by rw [← e55]; exact (xup_ne (by omega)).trans (hag a9 q0)
                refine x_iinc hC d_MessageCoder_init_133 rfl (v := (nI (7))) (x_incN 1) (Nat.le_of_ble_eq_true rfl) (L1 := [some (.ref b), some (.int (nI 7))]) rfl ?_
                refine x_goto hC d_MessageCoder_init_136 (tgt := 114) (by decide) ?_
                refine x_iload_n hC d_MessageCoder_init_114 rfl rfl ?_
                refine x_bipush hC d_MessageCoder_init_115 (v := nI 9) (by decide) ?_
                refine x_icmpN_ge hC d_MessageCoder_init_117 (tgt := 139) (by decide) (by omega) (by omega) (fun c_117 => ?_) (fun c_117 => ?_)
                · skip
                  exact absurd c_117 (by omega)
                · skip
                  refine x_aload_n hC d_MessageCoder_init_120 rfl rfl ?_
                  refine x_getf hC kf_MessageCoder_19 b0 rfl d_MessageCoder_init_121 ?_
                  refine x_iload_n hC d_MessageCoder_init_124 rfl rfl ?_
                  refine x_new hC (fs := [.null, .null, .null, .null, .null, .int (nI 0), .int (nI 0), .int (nI 0), .int (nI 0)]) kn_MessageCoder_9 (by decide) d_MessageCoder_init_125 ?_
                  generalize e56 : xup F55 (b + 468) (.inl (7, [.null, .null, .null, .null, .null, .int (nI 0), .int (nI 0), .int (nI 0), .int (nI 0)])) = F56
                  have b0 : F56 (b) = some (.inl (9, [.ref (b + 1), .ref (b + 50), .ref (b + 99), .ref (b + 100), .ref (b + 107), .ref (b + 109), .ref (b + 111), .ref (b + 122), .ref (b + 124), .int (nI 0), .int (nI 0), .int (nI 0), .int (-1), .int (-1)])) := by rw [← e56]; exact (xup_ne (by omega)).trans b0
                  have hz1 : xSt F56 ((b + 1)) (aS0) := xSt_fr hz1 (fun a9 q1 q2 => by rw [← e56]; exact xup_ne (by omega))
                  have hz2 : xSt F56 ((b + 50)) (aS0) := xSt_fr hz2 (fun a9 q1 q2 => by rw [← e56]; exact xup_ne (by omega))
                  have hz3 : F56 (b + 99) = some (.inr (4, 9, gw54)) := by rw [← e56]; exact (xup_ne (by omega)).trans hz3
                  have hz4 : F56 (b + 100) = some (.inl (4, [.ref ((b + 100) + 1), .ref ((b + 100) + 3), .ref ((b + 100) + 4), .ref ((b + 100) + 5), .ref ((b + 100) + 6), .int (nI 0), .int (nI 0), .int (nI 0), .int (nI 0), .int (nI 0), .int (nI 0)])) := by rw [← e56]; exact (xup_ne (by omega)).trans hz4
                  have hnht_40 : xTx F56 ((b + 100) + 1) (60) (0) ((fun _ => 0)) := xTx_fr hnht_40 (fun a9 q1 q2 => by rw [← e56]; exact xup_ne (by omega))
                  have hnhK_40 : xPk F56 ((b + 100)) ((cm.2.1)) (K00) := xPk_fr hnhK_40 (fun a9 q1 q2 => by rw [← e56]; exact xup_ne (by omega))
                  have hz7 : xTx F56 ((b + 107)) (32) (0) ((fun _ => 0)) := xTx_fr hz7 (fun a9 q1 q2 => by rw [← e56]; exact xup_ne (by omega))
                  have hz8 : xBt F56 ((b + 109)) (0) ((fun _ => 0)) := xBt_fr hz8 (fun a9 q1 q2 => by rw [← e56]; exact xup_ne (by omega))
                  have hz9 : xRg F56 ((b + 111)) := xRg_fr hz9 (fun a9 q1 q2 => by rw [← e56]; exact xup_ne (by omega))
                  have hz10 : xTx F56 ((b + 122)) (16) (0) ((fun _ => 0)) := xTx_fr hz10 (fun a9 q1 q2 => by rw [← e56]; exact xup_ne (by omega))
                  have hz11 : F56 (b + 124) = some (.inr (0, 17, fun b9 => .int (nI ((fun _ => 0) b9)))) := by rw [← e56]; exact (xup_ne (by omega)).trans hz11
                  have hz12 : xSt F56 ((b + 125)) (aS0) := xSt_fr hz12 (fun a9 q1 q2 => by rw [← e56]; exact xup_ne (by omega))
                  have hz13 : xSt F56 ((b + 174)) (aS0) := xSt_fr hz13 (fun a9 q1 q2 => by rw [← e56]; exact xup_ne (by omega))
                  have hz14 : xSt F56 ((b + 223)) (aS0) := xSt_fr hz14 (fun a9 q1 q2 => by rw [← e56]; exact xup_ne (by omega))
                  have hz15 : xSt F56 ((b + 272)) (aS0) := xSt_fr hz15 (fun a9 q1 q2 => by rw [← e56]; exact xup_ne (by omega))
                  have hz16 : xSt F56 ((b + 321)) (aS0) := xSt_fr hz16 (fun a9 q1 q2 => by rw [← e56]; exact xup_ne (by omega))
                  have hz17 : xSt F56 ((b + 370)) (aS0) := xSt_fr hz17 (fun a9 q1 q2 => by rw [← e56]; exact xup_ne (by omega))
                  have hz18 : xSt F56 ((b + 419)) (aS0) := xSt_fr hz18 (fun a9 q1 q2 => by rw [← e56]; exact xup_ne (by omega))
                  have hz19 : F56 (b + 468) = some (.inl (7, [.null, .null, .null, .null, .null, .int (nI 0), .int (nI 0), .int (nI 0), .int (nI 0)])) := by rw [← e56]; exact xup_eq
                  have hag : ∀ a9 : Nat, (a9 < b ∨ b + 566 ≤ a9) → F56 a9 = F a9 := fun a9 q0 => by rw [← e56]; exact (xup_ne (by omega)).trans (hag a9 q0)
                  refine x_dup hC d_MessageCoder_init_128 rfl ?_
                  refine x_callI hC ki_MessageCoder_11 rfl (c_State_init (h0 := hz19)) (by decide) rfl rfl rfl (Nat.le_of_ble_eq_true rfl) (by decide) d_MessageCoder_init_129 (fun r9 F9 z9 hp9 => ?_)
                  obtain ⟨rfl, h9c, j0, hag9⟩ := hp9
                  rw [h9c]
                  clear h9c z9
                  generalize F9 = F57 at *
                  have b0 : F57 (b) = some (.inl (9, [.ref (b + 1), .ref (b + 50), .ref (b + 99), .ref (b + 100), .ref (b + 107), .ref (b + 109), .ref (b + 111), .ref (b + 122), .ref (b + 124), .int (nI 0), .int (nI 0), .int (nI 0), .int (-1), .int (-1)])) := (hag9 _ (by omega)).trans b0
                  have hz1 : xSt F57 ((b + 1)) (aS0) := xSt_fr hz1 (fun a9 q1 q2 => hag9 a9 (by omega))
                  have hz2 : xSt F57 ((b + 50)) (aS0) := xSt_fr hz2 (fun a9 q1 q2 => hag9 a9 (by omega))
                  have hz3 : F57 (b + 99) = some (.inr (4, 9, gw54)) := (hag9 _ (by omega)).trans hz3
                  have hz4 : F57 (b + 100) = some (.inl (4, [.ref ((b + 100) + 1), .ref ((b + 100) + 3), .ref ((b + 100) + 4), .ref ((b + 100) + 5), .ref ((b + 100) + 6), .int (nI 0), .int (nI 0), .int (nI 0), .int (nI 0), .int (nI 0), .int (nI 0)])) := (hag9 _ (by omega)).trans hz4
                  have hnht_40 : xTx F57 ((b + 100) + 1) (60) (0) ((fun _ => 0)) := xTx_fr hnht_40 (fun a9 q1 q2 => hag9 a9 (by omega))
                  have hnhK_40 : xPk F57 ((b + 100)) ((cm.2.1)) (K00) := xPk_fr hnhK_40 (fun a9 q1 q2 => hag9 a9 (by omega))
                  have hz7 : xTx F57 ((b + 107)) (32) (0) ((fun _ => 0)) := xTx_fr hz7 (fun a9 q1 q2 => hag9 a9 (by omega))
                  have hz8 : xBt F57 ((b + 109)) (0) ((fun _ => 0)) := xBt_fr hz8 (fun a9 q1 q2 => hag9 a9 (by omega))
                  have hz9 : xRg F57 ((b + 111)) := xRg_fr hz9 (fun a9 q1 q2 => hag9 a9 (by omega))
                  have hz10 : xTx F57 ((b + 122)) (16) (0) ((fun _ => 0)) := xTx_fr hz10 (fun a9 q1 q2 => hag9 a9 (by omega))
                  have hz11 : F57 (b + 124) = some (.inr (0, 17, fun b9 => .int (nI ((fun _ => 0) b9)))) := (hag9 _ (by omega)).trans hz11
                  have hz12 : xSt F57 ((b + 125)) (aS0) := xSt_fr hz12 (fun a9 q1 q2 => hag9 a9 (by omega))
                  have hz13 : xSt F57 ((b + 174)) (aS0) := xSt_fr hz13 (fun a9 q1 q2 => hag9 a9 (by omega))
                  have hz14 : xSt F57 ((b + 223)) (aS0) := xSt_fr hz14 (fun a9 q1 q2 => hag9 a9 (by omega))
                  have hz15 : xSt F57 ((b + 272)) (aS0) := xSt_fr hz15 (fun a9 q1 q2 => hag9 a9 (by omega))
                  have hz16 : xSt F57 ((b + 321)) (aS0) := xSt_fr hz16 (fun a9 q1 q2 => hag9 a9 (by omega))
                  have hz17 : xSt F57 ((b + 370)) (aS0) := xSt_fr hz17 (fun a9 q1 q2 => hag9 a9 (by omega))
                  have hz18 : xSt F57 ((b + 419)) (aS0) := xSt_fr hz18 (fun a9 q1 q2 => hag9 a9 (by omega))
                  have hz19 : xSt F57 ((b + 468)) (aS0) := j0
                  have hag : ∀ a9 : Nat, (a9 < b ∨ b + 566 ≤ a9) → F57 a9 = F a9 := fun a9 q0 => (hag9 a9 (by omega)).trans (hag a9 q0)
                  have hg_129 := hag9
                  clear hag9
                  refine x_aast hC hz3 (by decide) rfl hz19.1 rfl (j := 7) ⟨rfl, by omega, by omega⟩ d_MessageCoder_init_132 (f1 := updV gw54 (7) (.ref (b + 468))) rfl ?_
                  generalize eg58 : updV gw54 (7) (.ref (b + 468)) = gw58
                  generalize e59 : xup F57 (b + 99) (.inr (4, 9, gw58)) = F59
                  have b0 : F59 (b) = some (.inl (9, [.ref (b + 1), .ref (b + 50), .ref (b + 99), .ref (b + 100), .ref (b + 107), .ref (b + 109), .ref (b + 111), .ref (b + 122), .ref (b + 124), .int (nI 0), .int (nI 0), .int (nI 0), .int (-1), .int (-1)])) := by rw [← e59]; exact (xup_ne (by omega)).trans b0
                  have hz1 : xSt F59 ((b + 1)) (aS0) := xSt_fr hz1 (fun a9 q1 q2 => by rw [← e59]; exact xup_ne (by omega))
                  have hz2 : xSt F59 ((b + 50)) (aS0) := xSt_fr hz2 (fun a9 q1 q2 => by rw [← e59]; exact xup_ne (by omega))
                  have hz3 : F59 (b + 99) = some (.inr (4, 9, gw58)) := by rw [← e59]; exact xup_eq
                  have hz4 : F59 (b + 100) = some (.inl (4, [.ref ((b + 100) + 1), .ref ((b + 100) + 3), .ref ((b + 100) + 4), .ref ((b + 100) + 5), .ref ((b + 100) + 6), .int (nI 0), .int (nI 0), .int (nI 0), .int (nI 0), .int (nI 0), .int (nI 0)])) := by rw [← e59]; exact (xup_ne (by omega)).trans hz4
                  have hnht_40 : xTx F59 ((b + 100) + 1) (60) (0) ((fun _ => 0)) := xTx_fr hnht_40 (fun a9 q1 q2 => by rw [← e59]; exact xup_ne (by omega))
                  have hnhK_40 : xPk F59 ((b + 100)) ((cm.2.1)) (K00) := xPk_fr hnhK_40 (fun a9 q1 q2 => by rw [← e59]; exact xup_ne (by omega))
                  have hz7 : xTx F59 ((b + 107)) (32) (0) ((fun _ => 0)) := xTx_fr hz7 (fun a9 q1 q2 => by rw [← e59]; exact xup_ne (by omega))
                  have hz8 : xBt F59 ((b + 109)) (0) ((fun _ => 0)) := xBt_fr hz8 (fun a9 q1 q2 => by rw [← e59]; exact xup_ne (by omega))
                  have hz9 : xRg F59 ((b + 111)) := xRg_fr hz9 (fun a9 q1 q2 => by rw [← e59]; exact xup_ne (by omega))
                  have hz10 : xTx F59 ((b + 122)) (16) (0) ((fun _ => 0)) := xTx_fr hz10 (fun a9 q1 q2 => by rw [← e59]; exact xup_ne (by omega))
                  have hz11 : F59 (b + 124) = some (.inr (0, 17, fun b9 => .int (nI ((fun _ => 0) b9)))) := by rw [← e59]; exact (xup_ne (by omega)).trans hz11
                  have hz12 : xSt F59 ((b + 125)) (aS0) := xSt_fr hz12 (fun a9 q1 q2 => by rw [← e59]; exact xup_ne (by omega))
                  have hz13 : xSt F59 ((b + 174)) (aS0) := xSt_fr hz13 (fun a9 q1 q2 => by rw [← e59]; exact xup_ne (by omega))
                  have hz14 : xSt F59 ((b + 223)) (aS0) := xSt_fr hz14 (fun a9 q1 q2 => by rw [← e59]; exact xup_ne (by omega))
                  have hz15 : xSt F59 ((b + 272)) (aS0) := xSt_fr hz15 (fun a9 q1 q2 => by rw [← e59]; exact xup_ne (by omega))
                  have hz16 : xSt F59 ((b + 321)) (aS0) := xSt_fr hz16 (fun a9 q1 q2 => by rw [← e59]; exact xup_ne (by omega))
                  have hz17 : xSt F59 ((b + 370)) (aS0) := xSt_fr hz17 (fun a9 q1 q2 => by rw [← e59]; exact xup_ne (by omega))
                  have hz18 : xSt F59 ((b + 419)) (aS0) := xSt_fr hz18 (fun a9 q1 q2 => by rw [← e59]; exact xup_ne (by omega))
                  have hz19 : xSt F59 ((b + 468)) (aS0) := xSt_fr hz19 (fun a9 q1 q2 => by rw [← e59]; exact xup_ne (by omega))
                  have hag : ∀ a9 : Nat, (a9 < b ∨ b + 566 ≤ a9) → F59 a9 = F a9 := fun a9 q0 => by rw [← e59]; exact (xup_ne (by omega)).trans (hag a9 q0)
                  refine x_iinc hC d_MessageCoder_init_133 rfl (v := (nI (8))) (x_incN 1) (Nat.le_of_ble_eq_true rfl) (L1 := [some (.ref b), some (.int (nI 8))]) rfl ?_
                  refine x_goto hC d_MessageCoder_init_136 (tgt := 114) (by decide) ?_
                  refine x_iload_n hC d_MessageCoder_init_114 rfl rfl ?_
                  refine x_bipush hC d_MessageCoder_init_115 (v := nI 9) (by decide) ?_
                  refine x_icmpN_ge hC d_MessageCoder_init_117 (tgt := 139) (by decide) (by omega) (by omega) (fun c_117 => ?_) (fun c_117 => ?_)
                  · skip
                    exact absurd c_117 (by omega)
                  · skip
                    refine x_aload_n hC d_MessageCoder_init_120 rfl rfl ?_
                    refine x_getf hC kf_MessageCoder_19 b0 rfl d_MessageCoder_init_121 ?_
                    refine x_iload_n hC d_MessageCoder_init_124 rfl rfl ?_
                    refine x_new hC (fs := [.null, .null, .null, .null, .null, .int (nI 0), .int (nI 0), .int (nI 0), .int (nI 0)]) kn_MessageCoder_9 (by decide) d_MessageCoder_init_125 ?_
                    generalize e60 : xup F59 (b + 517) (.inl (7, [.null, .null, .null, .null, .null, .int (nI 0), .int (nI 0), .int (nI 0), .int (nI 0)])) = F60
                    have b0 : F60 (b) = some (.inl (9, [.ref (b + 1), .ref (b + 50), .ref (b + 99), .ref (b + 100), .ref (b + 107), .ref (b + 109), .ref (b + 111), .ref (b + 122), .ref (b + 124), .int (nI 0), .int (nI 0), .int (nI 0), .int (-1), .int (-1)])) := by rw [← e60]; exact (xup_ne (by omega)).trans b0
                    have hz1 : xSt F60 ((b + 1)) (aS0) := xSt_fr hz1 (fun a9 q1 q2 => by rw [← e60]; exact xup_ne (by omega))
                    have hz2 : xSt F60 ((b + 50)) (aS0) := xSt_fr hz2 (fun a9 q1 q2 => by rw [← e60]; exact xup_ne (by omega))
                    have hz3 : F60 (b + 99) = some (.inr (4, 9, gw58)) := by rw [← e60]; exact (xup_ne (by omega)).trans hz3
                    have hz4 : F60 (b + 100) = some (.inl (4, [.ref ((b + 100) + 1), .ref ((b + 100) + 3), .ref ((b + 100) + 4), .ref ((b + 100) + 5), .ref ((b + 100) + 6), .int (nI 0), .int (nI 0), .int (nI 0), .int (nI 0), .int (nI 0), .int (nI 0)])) := by rw [← e60]; exact (xup_ne (by omega)).trans hz4
                    have hnht_40 : xTx F60 ((b + 100) + 1) (60) (0) ((fun _ => 0)) := xTx_fr hnht_40 (fun a9 q1 q2 => by rw [← e60]; exact xup_ne (by omega))
                    have hnhK_40 : xPk F60 ((b + 100)) ((cm.2.1)) (K00) := xPk_fr hnhK_40 (fun a9 q1 q2 => by rw [← e60]; exact xup_ne (by omega))
                    have hz7 : xTx F60 ((b + 107)) (32) (0) ((fun _ => 0)) := xTx_fr hz7 (fun a9 q1 q2 => by rw [← e60]; exact xup_ne (by omega))
                    have hz8 : xBt F60 ((b + 109)) (0) ((fun _ => 0)) := xBt_fr hz8 (fun a9 q1 q2 => by rw [← e60]; exact xup_ne (by omega))
                    have hz9 : xRg F60 ((b + 111)) := xRg_fr hz9 (fun a9 q1 q2 => by rw [← e60]; exact xup_ne (by omega))
                    have hz10 : xTx F60 ((b + 122)) (16) (0) ((fun _ => 0)) := xTx_fr hz10 (fun a9 q1 q2 => by rw [← e60]; exact xup_ne (by omega))
                    have hz11 : F60 (b + 124) = some (.inr (0, 17, fun b9 => .int (nI ((fun _ => 0) b9)))) := by rw [← e60]; exact (xup_ne (by omega)).trans hz11
                    have hz12 : xSt F60 ((b + 125)) (aS0) := xSt_fr hz12 (fun a9 q1 q2 => by rw [← e60]; exact xup_ne (by omega))
                    have hz13 : xSt F60 ((b + 174)) (aS0) := xSt_fr hz13 (fun a9 q1 q2 => by rw [← e60]; exact xup_ne (by omega))
                    have hz14 : xSt F60 ((b + 223)) (aS0) := xSt_fr hz14 (fun a9 q1 q2 => by rw [← e60]; exact xup_ne (by omega))
                    have hz15 : xSt F60 ((b + 272)) (aS0) := xSt_fr hz15 (fun a9 q1 q2 => by rw [← e60]; exact xup_ne (by omega))
                    have hz16 : xSt F60 ((b + 321)) (aS0) := xSt_fr hz16 (fun a9 q1 q2 => by rw [← e60]; exact xup_ne (by omega))
                    have hz17 : xSt F60 ((b + 370)) (aS0) := xSt_fr hz17 (fun a9 q1 q2 => by rw [← e60]; exact xup_ne (by omega))
                    have hz18 : xSt F60 ((b + 419)) (aS0) := xSt_fr hz18 (fun a9 q1 q2 => by rw [← e60]; exact xup_ne (by omega))
                    have hz19 : xSt F60 ((b + 468)) (aS0) := xSt_fr hz19 (fun a9 q1 q2 => by rw [← e60]; exact xup_ne (by omega))
                    have hz20 : F60 (b + 517) = some (.inl (7, [.null, .null, .null, .null, .null, .int (nI 0), .int (nI 0), .int (nI 0), .int (nI 0)])) := by rw [← e60]; exact xup_eq
                    have hag : ∀ a9 : Nat, (a9 < b ∨ b + 566 ≤ a9) → F60 a9 = F a9 := fun a9 q0 => by rw [← e60]; exact (xup_ne (by omega)).trans (hag a9 q0)
                    refine x_dup hC d_MessageCoder_init_128 rfl ?_
                    refine x_callI hC ki_MessageCoder_11 rfl (c_State_init (h0 := hz20)) (by decide) rfl rfl rfl (Nat.le_of_ble_eq_true rfl) (by decide) d_MessageCoder_init_129 (fun r9 F9 z9 hp9 => ?_)
                    obtain ⟨rfl, h9c, j0, hag9⟩ := hp9
                    rw [h9c]
                    clear h9c z9
                    generalize F9 = F61 at *
                    have b0 : F61 (b) = some (.inl (9, [.ref (b + 1), .ref (b + 50), .ref (b + 99), .ref (b + 100), .ref (b + 107), .ref (b + 109), .ref (b + 111), .ref (b + 122), .ref (b + 124), .int (nI 0), .int (nI 0), .int (nI 0), .int (-1), .int (-1)])) := (hag9 _ (by omega)).trans b0
                    have hz1 : xSt F61 ((b + 1)) (aS0) := xSt_fr hz1 (fun a9 q1 q2 => hag9 a9 (by omega))
                    have hz2 : xSt F61 ((b + 50)) (aS0) := xSt_fr hz2 (fun a9 q1 q2 => hag9 a9 (by omega))
                    have hz3 : F61 (b + 99) = some (.inr (4, 9, gw58)) := (hag9 _ (by omega)).trans hz3
                    have hz4 : F61 (b + 100) = some (.inl (4, [.ref ((b + 100) + 1), .ref ((b + 100) + 3), .ref ((b + 100) + 4), .ref ((b + 100) + 5), .ref ((b + 100) + 6), .int (nI 0), .int (nI 0), .int (nI 0), .int (nI 0), .int (nI 0), .int (nI 0)])) := (hag9 _ (by omega)).trans hz4
                    have hnht_40 : xTx F61 ((b + 100) + 1) (60) (0) ((fun _ => 0)) := xTx_fr hnht_40 (fun a9 q1 q2 => hag9 a9 (by omega))
                    have hnhK_40 : xPk F61 ((b + 100)) ((cm.2.1)) (K00) := xPk_fr hnhK_40 (fun a9 q1 q2 => hag9 a9 (by omega))
                    have hz7 : xTx F61 ((b + 107)) (32) (0) ((fun _ => 0)) := xTx_fr hz7 (fun a9 q1 q2 => hag9 a9 (by omega))
                    have hz8 : xBt F61 ((b + 109)) (0) ((fun _ => 0)) := xBt_fr hz8 (fun a9 q1 q2 => hag9 a9 (by omega))
                    have hz9 : xRg F61 ((b + 111)) := xRg_fr hz9 (fun a9 q1 q2 => hag9 a9 (by omega))
                    have hz10 : xTx F61 ((b + 122)) (16) (0) ((fun _ => 0)) := xTx_fr hz10 (fun a9 q1 q2 => hag9 a9 (by omega))
                    have hz11 : F61 (b + 124) = some (.inr (0, 17, fun b9 => .int (nI ((fun _ => 0) b9)))) := (hag9 _ (by omega)).trans hz11
                    have hz12 : xSt F61 ((b + 125)) (aS0) := xSt_fr hz12 (fun a9 q1 q2 => hag9 a9 (by omega))
                    have hz13 : xSt F61 ((b + 174)) (aS0) := xSt_fr hz13 (fun a9 q1 q2 => hag9 a9 (by omega))
                    have hz14 : xSt F61 ((b + 223)) (aS0) := xSt_fr hz14 (fun a9 q1 q2 => hag9 a9 (by omega))
                    have hz15 : xSt F61 ((b + 272)) (aS0) := xSt_fr hz15 (fun a9 q1 q2 => hag9 a9 (by omega))
                    have hz16 : xSt F61 ((b + 321)) (aS0) := xSt_fr hz16 (fun a9 q1 q2 => hag9 a9 (by omega))
                    have hz17 : xSt F61 ((b + 370)) (aS0) := xSt_fr hz17 (fun a9 q1 q2 => hag9 a9 (by omega))
                    have hz18 : xSt F61 ((b + 419)) (aS0) := xSt_fr hz18 (fun a9 q1 q2 => hag9 a9 (by omega))
                    have hz19 : xSt F61 ((b + 468)) (aS0) := xSt_fr hz19 (fun a9 q1 q2 => hag9 a9 (by omega))
                    have hz20 : xSt F61 ((b + 517)) (aS0) := j0
                    have hag : ∀ a9 : Nat, (a9 < b ∨ b + 566 ≤ a9) → F61 a9 = F a9 := fun a9 q0 => (hag9 a9 (by omega)).trans (hag a9 q0)
                    have hg_129 := hag9
                    clear hag9
                    refine x_aast hC hz3 (by decide) rfl hz20.1 rfl (j := 8) ⟨rfl, by omega, by omega⟩ d_MessageCoder_init_132 (f1 := updV gw58 (8) (.ref (b + 517))) rfl ?_
                    generalize eg62 : updV gw58 (8) (.ref (b + 517)) = gw62
                    generalize e63 : xup F61 (b + 99) (.inr (4, 9, gw62)) = F63
                    have b0 : F63 (b) = some (.inl (9, [.ref (b + 1), .ref (b + 50), .ref (b + 99), .ref (b + 100), .ref (b + 107), .ref (b + 109), .ref (b + 111), .ref (b + 122), .ref (b + 124), .int (nI 0), .int (nI 0), .int (nI 0), .int (-1), .int (-1)])) := by rw [← e63]; exact (xup_ne (by omega)).trans b0
                    have hz1 : xSt F63 ((b + 1)) (aS0) := xSt_fr hz1 (fun a9 q1 q2 => by rw [← e63]; exact xup_ne (by omega))
                    have hz2 : xSt F63 ((b + 50)) (aS0) := xSt_fr hz2 (fun a9 q1 q2 => by rw [← e63]; exact xup_ne (by omega))
                    have hz3 : F63 (b + 99) = some (.inr (4, 9, gw62)) := by rw [← e63]; exact xup_eq
                    have hz4 : F63 (b + 100) = some (.inl (4, [.ref ((b + 100) + 1), .ref ((b + 100) + 3), .ref ((b + 100) + 4), .ref ((b + 100) + 5), .ref ((b + 100) + 6), .int (nI 0), .int (nI 0), .int (nI 0), .int (nI 0), .int (nI 0), .int (nI 0)])) := by rw [← e63]; exact (xup_ne (by omega)).trans hz4
                    have hnht_40 : xTx F63 ((b + 100) + 1) (60) (0) ((fun _ => 0)) := xTx_fr hnht_40 (fun a9 q1 q2 => by rw [← e63]; exact xup_ne (by omega))
                    have hnhK_40 : xPk F63 ((b + 100)) ((cm.2.1)) (K00) := xPk_fr hnhK_40 (fun a9 q1 q2 => by rw [← e63]; exact xup_ne (by omega))
                    have hz7 : xTx F63 ((b + 107)) (32) (0) ((fun _ => 0)) := xTx_fr hz7 (fun a9 q1 q2 => by rw [← e63]; exact xup_ne (by omega))
                    have hz8 : xBt F63 ((b + 109)) (0) ((fun _ => 0)) := xBt_fr hz8 (fun a9 q1 q2 => by rw [← e63]; exact xup_ne (by omega))
                    have hz9 : xRg F63 ((b + 111)) := xRg_fr hz9 (fun a9 q1 q2 => by rw [← e63]; exact xup_ne (by omega))
                    have hz10 : xTx F63 ((b + 122)) (16) (0) ((fun _ => 0)) := xTx_fr hz10 (fun a9 q1 q2 => by rw [← e63]; exact xup_ne (by omega))
                    have hz11 : F63 (b + 124) = some (.inr (0, 17, fun b9 => .int (nI ((fun _ => 0) b9)))) := by rw [← e63]; exact (xup_ne (by omega)).trans hz11
                    have hz12 : xSt F63 ((b + 125)) (aS0) := xSt_fr hz12 (fun a9 q1 q2 => by rw [← e63]; exact xup_ne (by omega))
                    have hz13 : xSt F63 ((b + 174)) (aS0) := xSt_fr hz13 (fun a9 q1 q2 => by rw [← e63]; exact xup_ne (by omega))
                    have hz14 : xSt F63 ((b + 223)) (aS0) := xSt_fr hz14 (fun a9 q1 q2 => by rw [← e63]; exact xup_ne (by omega))
                    have hz15 : xSt F63 ((b + 272)) (aS0) := xSt_fr hz15 (fun a9 q1 q2 => by rw [← e63]; exact xup_ne (by omega))
                    have hz16 : xSt F63 ((b + 321)) (aS0) := xSt_fr hz16 (fun a9 q1 q2 => by rw [← e63]; exact xup_ne (by omega))
                    have hz17 : xSt F63 ((b + 370)) (aS0) := xSt_fr hz17 (fun a9 q1 q2 => by rw [← e63]; exact xup_ne (by omega))
                    have hz18 : xSt F63 ((b + 419)) (aS0) := xSt_fr hz18 (fun a9 q1 q2 => by rw [← e63]; exact xup_ne (by omega))
                    have hz19 : xSt F63 ((b + 468)) (aS0) := xSt_fr hz19 (fun a9 q1 q2 => by rw [← e63]; exact xup_ne (by omega))
                    have hz20 : xSt F63 ((b + 517)) (aS0) := xSt_fr hz20 (fun a9 q1 q2 => by rw [← e63]; exact xup_ne (by omega))
                    have hag : ∀ a9 : Nat, (a9 < b ∨ b + 566 ≤ a9) → F63 a9 = F a9 := fun a9 q0 => by rw [← e63]; exact (xup_ne (by omega)).trans (hag a9 q0)
                    refine x_iinc hC d_MessageCoder_init_133 rfl (v := (nI (9))) (x_incN 1) (Nat.le_of_ble_eq_true rfl) (L1 := [some (.ref b), some (.int (nI 9))]) rfl ?_
                    refine x_goto hC d_MessageCoder_init_136 (tgt := 114) (by decide) ?_
                    refine x_iload_n hC d_MessageCoder_init_114 rfl rfl ?_
                    refine x_bipush hC d_MessageCoder_init_115 (v := nI 9) (by decide) ?_
                    refine x_icmpN_ge hC d_MessageCoder_init_117 (tgt := 139) (by decide) (by omega) (by omega) (fun c_117 => ?_) (fun c_117 => ?_)
                    · skip
                      refine hret _ _ _ _ _ _ d_MessageCoder_init_139 (by decide) (by decide) ?_
                      subst eg30
                      subst eg34
                      subst eg38
                      subst eg42
                      subst eg46
                      subst eg50
                      subst eg54
                      subst eg58
                      subst eg62
                      exact ⟨rfl, rfl, ⟨b0, hz1, hz2, ⟨_, hz3, all9 rfl rfl rfl rfl rfl rfl rfl rfl rfl⟩, ⟨_, _, _, _, _, K00, hz4, hnhK_40⟩, hnht_40, hz7, ⟨_, _, hz8⟩, hz9, ⟨_, _, hz10⟩, ⟨_, hz11⟩, all9 hz12 hz13 hz14 hz15 hz16 hz17 hz18 hz19 hz20⟩, hag⟩
                    · skip
                      exact absurd c_117 (by omega)

