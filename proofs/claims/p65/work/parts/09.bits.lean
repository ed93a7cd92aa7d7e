/-- a message at m -/
def xMs (F : xF) (m id pr n : Nat) (s : Nat → Nat) : Prop := F m = some (.inl (3, [.ref (m + 1), .int (nI id), .int (nI pr)])) ∧ xTx F (m + 1) 16 n s ∧ id < 1000 ∧ pr < 1000
theorem xMs_fr {F F1 : xF} {m id pr n : Nat} {s : Nat → Nat} (h : xMs F m id pr n s) (hf : ∀ a, m ≤ a → a < m + 3 → F1 a = F a) : xMs F1 m id pr n s := ⟨(hf _ (by omega) (by omega)).trans h.1, xTx_fr h.2.1 (fun a h1 h2 => hf a (by omega) (by omega)), h.2.2⟩
/-- bits at b: n of them, f -/
def xBt (F : xF) (b n : Nat) (f : Nat → Nat) : Prop := F b = some (.inl (0, [.ref (b + 1), .int (nI n)])) ∧ n ≤ 112 ∧ (∀ j, j < n → f j ≤ 1) ∧ ∃ g : Nat → Nat, F (b + 1) = some (.inr (0, 112, fun b9 => .int (nI (g b9)))) ∧ ∀ j, j < n → g j = f j
theorem xBt_fr {F F1 : xF} {b n : Nat} {f : Nat → Nat} (h : xBt F b n f) (hf : ∀ a, b ≤ a → a < b + 2 → F1 a = F a) : xBt F1 b n f := by
  obtain ⟨h1, h2, h3, g, h4, h5⟩ := h
  exact ⟨(hf _ (by omega) (by omega)).trans h1, h2, h3, g, (hf _ (by omega) (by omega)).trans h4, h5⟩
theorem xBt_ext {F : xF} {b n : Nat} {f f2 : Nat → Nat} (h : xBt F b n f) (hf : ∀ j, j < n → f j = f2 j) : xBt F b n f2 := by
  obtain ⟨h1, h2, h3, g, h4, h5⟩ := h
  exact ⟨h1, h2, fun j hj => by rw [← hf j hj]; exact h3 j hj, g, h4, fun j hj => (h5 j hj).trans (hf j hj)⟩
/-- the bits of one code, and of a row of signs -/
def codeB (l v : Nat) : Nat → Nat := fun j => v / 2 ^ (l - 1 - j) % 2
def splB (ln vl s : Nat → Nat) : Nat → (Nat → Nat)
  | 0 => fun _ => 0
  | k + 1 => xcat (splB ln vl s k) (bitsN ln s k) (codeB (lenF ln (s k)) (lenF vl (s k)))
theorem splB_le (ln vl s : Nat → Nat) : ∀ k j, splB ln vl s k j ≤ 1
  | 0, _ => Nat.zero_le _
  | k + 1, j => by
    unfold splB xcat
    split
    · exact splB_le ln vl s k j
    · unfold codeB; omega
/-- a bit, zeros beyond; q counts from lz places ahead -/
def zbt (n : Nat) (f : Nat → Nat) (lz q : Nat) : Nat := if lz ≤ q ∧ q - lz < n then f (q - lz) else 0
theorem zbt_le {n : Nat} {f : Nat → Nat} (h : ∀ j, j < n → f j ≤ 1) (lz q : Nat) : zbt n f lz q ≤ 1 := by
  unfold zbt
  split
  · rename_i hc; exact h _ hc.2
  · omega
def fourB (n : Nat) (f : Nat → Nat) (lz q : Nat) : Nat := ((zbt n f lz q * 2 + zbt n f lz (q + 1)) * 2 + zbt n f lz (q + 2)) * 2 + zbt n f lz (q + 3)
theorem fourB_le {n : Nat} {f : Nat → Nat} (h : ∀ j, j < n → f j ≤ 1) (lz q : Nat) : fourB n f lz q ≤ 15 := by
  have h0 := zbt_le h lz q
  have h1 := zbt_le h lz (q + 1)
  have h2 := zbt_le h lz (q + 2)
  have h3 := zbt_le h lz (q + 3)
  unfold fourB
  omega
/-- the remainder, bit by bit -/
def crcS (r b : Nat) : Nat := if r * 2 + b < 16 then r * 2 + b else (r * 2 + b) ^^^ 19
def crcB (n : Nat) (f : Nat → Nat) : Nat → Nat
  | 0 => 0
  | k + 1 => crcS (crcB n f k) (zbt n f 0 k)
theorem crcS_le {r b : Nat} (hr : r ≤ 15) (hb : b ≤ 1) : crcS r b ≤ 15 := by
  have h : ∀ r, r ≤ 15 → ∀ b, b ≤ 1 → crcS r b ≤ 15 := by decide
  exact h r hr b hb
theorem crcB_le {n : Nat} {f : Nat → Nat} (h : ∀ j, j < n → f j ≤ 1) : ∀ k, crcB n f k ≤ 15
  | 0 => Nat.zero_le _
  | k + 1 => crcS_le (crcB_le h k) (zbt_le h 0 k)
theorem x_subadd (q lz i : Nat) : (nI q - nI lz) + nI i = nI (q + i) - nI lz := by
  rw [← nI_add]
  generalize nI q = a
  generalize nI lz = b
  generalize nI i = c
  rw [Int32.sub_eq_add_neg, Int32.sub_eq_add_neg, Int32.add_assoc, Int32.add_assoc, Int32.add_comm (-b) c]
theorem x_sub1 (a b : Nat) : (nI a - nI b) + Int32.ofInt (-1) = nI a - nI (b + 1) := by
  rw [← nI_1 b]
  show (nI a - nI b) + (-1) = nI a - (nI b + 1)
  rw [Int32.sub_eq_add_neg, Int32.sub_eq_add_neg, Int32.neg_add, Int32.sub_eq_add_neg, Int32.add_assoc]
theorem x_sub0 (q : Nat) : nI q = nI q - nI 0 := by
  show nI q = nI q - 0
  rw [Int32.sub_zero]
theorem x_sublt {q lz : Nat} (hq : q < 2 ^ 30) (hl : lz < 2 ^ 30) : nI q - nI lz < 0 ↔ q < lz := by
  rw [Int32.lt_iff_toInt_lt, pk_sub_toInt hq hl, Int32.toInt_zero]
  omega
theorem x_suble {q lz n : Nat} (hq : q < 2 ^ 30) (hl : lz < 2 ^ 30) (hn : n < 2 ^ 30) : nI n ≤ nI q - nI lz ↔ n + lz ≤ q := by
  rw [Int32.le_iff_toInt_le, pk_sub_toInt hq hl, nI_toInt (by omega)]
  omega

theorem d_Message_init_0 : decode prog_7_method_1_code 0 = .ok (.aload_n 0, 1) := by decide +kernel
theorem d_Message_init_1 : decode prog_7_method_1_code 1 = .ok (.invokespecial 3, 3) := by decide +kernel
theorem d_Message_init_4 : decode prog_7_method_1_code 4 = .ok (.aload_n 0, 1) := by decide +kernel
theorem d_Message_init_5 : decode prog_7_method_1_code 5 = .ok (.new 9, 3) := by decide +kernel
theorem d_Message_init_8 : decode prog_7_method_1_code 8 = .ok (.dup, 1) := by decide +kernel
theorem d_Message_init_9 : decode prog_7_method_1_code 9 = .ok (.bipush 16, 2) := by decide +kernel
theorem d_Message_init_11 : decode prog_7_method_1_code 11 = .ok (.invokespecial 11, 3) := by decide +kernel
theorem d_Message_init_14 : decode prog_7_method_1_code 14 = .ok (.putfield 14, 3) := by decide +kernel
theorem d_Message_init_17 : decode prog_7_method_1_code 17 = .ok (.return_, 1) := by decide +kernel
set_option maxHeartbeats 4000000 in
set_option maxRecDepth 20000 in
theorem c_Message_init {P : xP} {F : xF} {m : Nat} (h0 : F (m) = some (.inl (3, [.null, .int (nI 0), .int (nI 0)])))  : xM P xy_Message_init [.ref m] F (m + 1) 2 18 (fun r9 F9 z9 => r9 = none ∧ z9 = m + 3 ∧ xMs F9 (m) (0) (0) (0) ((fun _ => 0)) ∧ (∀ a9 : Nat, (a9 < m ∨ m + 3 ≤ a9) → F9 a9 = F a9)) := by
  refine xM_v rfl (Nat.le_of_ble_eq_true rfl) (L0 := [some (.ref m)]) rfl rfl fun Θ hC hin hret => ?_
  have hag : ∀ a9 : Nat, (a9 < m ∨ m + 3 ≤ a9) → F a9 = F a9 := fun a9 _ => rfl
  refine x_aload_n hC d_Message_init_0 rfl rfl ?_
  refine x_objInit hC ko_Message_3 rfl (by decide) (Nat.le_of_ble_eq_true rfl) d_Message_init_1 ?_
  refine x_aload_n hC d_Message_init_4 rfl rfl ?_
  refine x_new hC (fs := [.null, .int (nI 0)]) kn_Message_9 (by decide) d_Message_init_5 ?_
  generalize e1 : xup F (m + 1) (.inl (8, [.null, .int (nI 0)])) = F1
  have h0 : F1 (m) = some (.inl (3, [.null, .int (nI 0), .int (nI 0)])) := by rw [← e1]; exact (xup_ne (by omega)).trans h0
  have ht : F1 (m + 1) = some (.inl (8, [.null, .int (nI 0)])) := by rw [← e1]; exact xup_eq
  have hag : ∀ a9 : Nat, (a9 < m ∨ m + 3 ≤ a9) → F1 a9 = F a9 := fun a9 q0 => by rw [← e1]; exact (xup_ne (by omega)).trans (hag a9 q0)
  refine x_dup hC d_Message_init_8 rfl ?_
  refine x_bipush hC d_Message_init_9 (v := nI 16) (by decide) ?_
  refine x_callI hC ki_Message_11 rfl (c_Text_init16 (h0 := ht)) (by decide) rfl rfl rfl (Nat.le_of_ble_eq_true rfl) (by decide) d_Message_init_11 (fun r9 F9 z9 hp9 => ?_)
  obtain ⟨rfl, h9c, j0, hag9⟩ := hp9
  rw [h9c]
  clear h9c z9
  generalize F9 = F2 at *
  have h0 : F2 (m) = some (.inl (3, [.null, .int (nI 0), .int (nI 0)])) := (hag9 _ (by omega)).trans h0
  have ht : xTx F2 ((m + 1)) (16) (0) ((fun _ => 0)) := j0
  have hag : ∀ a9 : Nat, (a9 < m ∨ m + 3 ≤ a9) → F2 a9 = F a9 := fun a9 q0 => (hag9 a9 (by omega)).trans (hag a9 q0)
  have hg_11 := hag9
  clear hag9
  refine x_putF hC hin kk_Message_14 h0 (Nat.le_of_ble_eq_true rfl) rfl rfl d_Message_init_14 (fs1 := [.ref (m + 1), .int (nI 0), .int (nI 0)]) rfl ?_
  generalize e3 : xup F2 (m) (.inl (3, [.ref (m + 1), .int (nI 0), .int (nI 0)])) = F3
  have h0 : F3 (m) = some (.inl (3, [.ref (m + 1), .int (nI 0), .int (nI 0)])) := by rw [← e3]; exact xup_eq
  have ht : xTx F3 ((m + 1)) (16) (0) ((fun _ => 0)) := xTx_fr ht (fun a9 q1 q2 => by rw [← e3]; exact xup_ne (by omega))
  have hag : ∀ a9 : Nat, (a9 < m ∨ m + 3 ≤ a9) → F3 a9 = F a9 := fun a9 q0 => by rw [← e3]; exact (xup_ne (by omega)).trans (hag a9 q0)
  exact hret _ _ _ _ _ _ d_Message_init_17 (by decide) (by decide) (⟨rfl, rfl, ⟨h0, ht, by omega, by omega⟩, hag⟩)

theorem d_Message_copyFrom_0 : decode prog_7_method_2_code 0 = .ok (.aload_n 0, 1) := by decide +kernel
theorem d_Message_copyFrom_1 : decode prog_7_method_2_code 1 = .ok (.getfield 14, 3) := by decide +kernel
theorem d_Message_copyFrom_4 : decode prog_7_method_2_code 4 = .ok (.aload_n 1, 1) := by decide +kernel
theorem d_Message_copyFrom_5 : decode prog_7_method_2_code 5 = .ok (.getfield 14, 3) := by decide +kernel
theorem d_Message_copyFrom_8 : decode prog_7_method_2_code 8 = .ok (.invokevirtual 20, 3) := by decide +kernel
theorem d_Message_copyFrom_11 : decode prog_7_method_2_code 11 = .ok (.aload_n 0, 1) := by decide +kernel
theorem d_Message_copyFrom_12 : decode prog_7_method_2_code 12 = .ok (.aload_n 1, 1) := by decide +kernel
theorem d_Message_copyFrom_13 : decode prog_7_method_2_code 13 = .ok (.getfield 24, 3) := by decide +kernel
theorem d_Message_copyFrom_16 : decode prog_7_method_2_code 16 = .ok (.putfield 24, 3) := by decide +kernel
theorem d_Message_copyFrom_19 : decode prog_7_method_2_code 19 = .ok (.aload_n 0, 1) := by decide +kernel
theorem d_Message_copyFrom_20 : decode prog_7_method_2_code 20 = .ok (.aload_n 1, 1) := by decide +kernel
theorem d_Message_copyFrom_21 : decode prog_7_method_2_code 21 = .ok (.getfield 28, 3) := by decide +kernel
theorem d_Message_copyFrom_24 : decode prog_7_method_2_code 24 = .ok (.putfield 28, 3) := by decide +kernel
theorem d_Message_copyFrom_27 : decode prog_7_method_2_code 27 = .ok (.return_, 1) := by decide +kernel
set_option maxHeartbeats 4000000 in
set_option maxRecDepth 20000 in
theorem c_Message_copyFrom {P : xP} {F : xF} {z : Nat} {m : Nat} {id : Nat} {pr : Nat} {n : Nat} {s : Nat → Nat} {o : Nat} {ido : Nat} {pro : Nat} {no : Nat} {so : Nat → Nat} (hm : xMs F (m) (id) (pr) (n) (s)) (ho : xMs F (o) (ido) (pro) (no) (so)) (hd : m + 3 ≤ o ∨ o + 3 ≤ m) : xM P xy_Message_copyFrom [.ref m, .ref o] F (z) 0 0 (fun r9 F9 z9 => r9 = none ∧ z9 = z ∧ xMs F9 (m) (ido) (pro) (no) (so) ∧ xMs F9 (o) (ido) (pro) (no) (so) ∧ (∀ a9 : Nat, (a9 < m ∨ m + 3 ≤ a9) → F9 a9 = F a9)) := by
  refine xM_v rfl (Nat.le_of_ble_eq_true rfl) (L0 := [some (.ref m), some (.ref o)]) rfl rfl fun Θ hC hin hret => ?_
  have hag : ∀ a9 : Nat, (a9 < m ∨ m + 3 ≤ a9) → F a9 = F a9 := fun a9 _ => rfl
  obtain ⟨h0hm, h1hm, hbhm⟩ := hm
  obtain ⟨h0ho, h1ho, hbho⟩ := ho
  refine x_aload_n hC d_Message_copyFrom_0 rfl rfl ?_
  refine x_getf hC kf_Message_14 h0hm rfl d_Message_copyFrom_1 ?_
  refine x_aload_n hC d_Message_copyFrom_4 rfl rfl ?_
  refine x_getf hC kf_Message_14 h0ho rfl d_Message_copyFrom_5 ?_
  refine x_callV hC kv_Message_20 (c_Text_copyFrom (ht := h1hm) (ho := h1ho) (hsz := h1ho.2.1.1) (hd := by omega)) h1hm.1 rfl rfl (by decide) rfl rfl rfl (Nat.le_of_ble_eq_true rfl) (by decide) d_Message_copyFrom_8 (fun r9 F9 z9 hp9 => ?_)
  obtain ⟨rfl, h9c, j0, j1, hag9⟩ := hp9
  rw [h9c]
  clear h9c z9
  generalize F9 = F1 at *
  have h0hm : F1 (m) = some (.inl (3, [.ref (m + 1), .int (nI (id)), .int (nI (pr))])) := (hag9 _ (by omega)).trans h0hm
  have h0ho : F1 (o) = some (.inl (3, [.ref (o + 1), .int (nI (ido)), .int (nI (pro))])) := (hag9 _ (by omega)).trans h0ho
  have h1hm : xTx F1 ((m + 1)) (16) (no) (so) := j0
  have h1ho : xTx F1 ((o + 1)) (16) (no) (so) := j1
  have hag : ∀ a9 : Nat, (a9 < m ∨ m + 3 ≤ a9) → F1 a9 = F a9 := fun a9 q0 => (hag9 a9 (by omega)).trans (hag a9 q0)
  have hg_8 := hag9
  clear hag9
  refine x_aload_n hC d_Message_copyFrom_11 rfl rfl ?_
  refine x_aload_n hC d_Message_copyFrom_12 rfl rfl ?_
  refine x_getf hC kf_Message_24 h0ho rfl d_Message_copyFrom_13 ?_
  refine x_putf hC kf_Message_24 h0hm (Nat.le_of_ble_eq_true rfl) rfl rfl d_Message_copyFrom_16 (fs1 := [.ref (m + 1), .int (nI (ido)), .int (nI (pr))]) rfl ?_
  generalize e2 : xup F1 (m) (.inl (3, [.ref (m + 1), .int (nI (ido)), .int (nI (pr))])) = F2
  have h0hm : F2 (m) = some (.inl (3, [.ref (m + 1), .int (nI (ido)), .int (nI (pr))])) := by rw [← e2]; exact xup_eq
  have h0ho : F2 (o) = some (.inl (3, [.ref (o + 1), .int (nI (ido)), .int (nI (pro))])) := by rw [← e2]; exact (xup_ne (by omega)).trans h0ho
  have h1hm : xTx F2 ((m + 1)) (16) (no) (so) := xTx_fr h1hm (fun a9 q1 q2 => by rw [← e2]; exact xup_ne (by omega))
  have h1ho : xTx F2 ((o + 1)) (16) (no) (so) := xTx_fr h1ho (fun a9 q1 q2 => by rw [← e2]; exact xup_ne (by omega))
  have hag : ∀ a9 : Nat, (a9 < m ∨ m + 3 ≤ a9) → F2 a9 = F a9 := fun a9 q0 => by rw [← e2]; exact (xup_ne (by omega)).trans (hag a9 q0)
  refine x_aload_n hC d_Message_copyFrom_19 rfl rfl ?_
  refine x_aload_n hC d_Message_copyFrom_20 rfl rfl ?_
  refine x_getf hC kf_Message_28 h0ho rfl d_Message_copyFrom_21 ?_
  refine x_putf hC kf_Message_28 h0hm (Nat.le_of_ble_eq_true rfl) rfl rfl d_Message_copyFrom_24 (fs1 := [.ref (m + 1), .int (nI (ido)), .int (nI (pro))]) rfl ?_
  generalize e3 : xup F2 (m) (.inl (3, [.ref (m + 1), .int (nI (ido)), .int (nI (pro))])) = F3
  have h0hm : F3 (m) = some (.inl (3, [.ref (m + 1), .int (nI (ido)), .int (nI (pro))])) := by rw [← e3]; exact xup_eq
  have h0ho : F3 (o) = some (.inl (3, [.ref (o + 1), .int (nI (ido)), .int (nI (pro))])) := by rw [← e3]; exact (xup_ne (by omega)).trans h0ho
  have h1hm : xTx F3 ((m + 1)) (16) (no) (so) := xTx_fr h1hm (fun a9 q1 q2 => by rw [← e3]; exact xup_ne (by omega))
  have h1ho : xTx F3 ((o + 1)) (16) (no) (so) := xTx_fr h1ho (fun a9 q1 q2 => by rw [← e3]; exact xup_ne (by omega))
  have hag : ∀ a9 : Nat, (a9 < m ∨ m + 3 ≤ a9) → F3 a9 = F a9 := fun a9 q0 => by rw [← e3]; exact (xup_ne (by omega)).trans (hag a9 q0)
  exact hret _ _ _ _ _ _ d_Message_copyFrom_27 (by decide) (by decide) (⟨rfl, rfl, ⟨h0hm, h1hm, hbho⟩, ⟨h0ho, h1ho, hbho⟩, hag⟩)

theorem d_Message_isBefore_0 : decode prog_7_method_3_code 0 = .ok (.aload_n 0, 1) := by decide +kernel
theorem d_Message_isBefore_1 : decode prog_7_method_3_code 1 = .ok (.getfield 28, 3) := by decide +kernel
theorem d_Message_isBefore_4 : decode prog_7_method_3_code 4 = .ok (.aload_n 1, 1) := by decide +kernel
theorem d_Message_isBefore_5 : decode prog_7_method_3_code 5 = .ok (.getfield 28, 3) := by decide +kernel
theorem d_Message_isBefore_8 : decode prog_7_method_3_code 8 = .ok (.if_icmp .gt 25, 3) := by decide +kernel
theorem d_Message_isBefore_11 : decode prog_7_method_3_code 11 = .ok (.aload_n 0, 1) := by decide +kernel
theorem d_Message_isBefore_12 : decode prog_7_method_3_code 12 = .ok (.getfield 28, 3) := by decide +kernel
theorem d_Message_isBefore_15 : decode prog_7_method_3_code 15 = .ok (.aload_n 1, 1) := by decide +kernel
theorem d_Message_isBefore_16 : decode prog_7_method_3_code 16 = .ok (.getfield 28, 3) := by decide +kernel
theorem d_Message_isBefore_19 : decode prog_7_method_3_code 19 = .ok (.if_icmp .ne 18, 3) := by decide +kernel
theorem d_Message_isBefore_22 : decode prog_7_method_3_code 22 = .ok (.aload_n 0, 1) := by decide +kernel
theorem d_Message_isBefore_23 : decode prog_7_method_3_code 23 = .ok (.getfield 24, 3) := by decide +kernel
theorem d_Message_isBefore_26 : decode prog_7_method_3_code 26 = .ok (.aload_n 1, 1) := by decide +kernel
theorem d_Message_isBefore_27 : decode prog_7_method_3_code 27 = .ok (.getfield 24, 3) := by decide +kernel
theorem d_Message_isBefore_30 : decode prog_7_method_3_code 30 = .ok (.if_icmp .ge 7, 3) := by decide +kernel
theorem d_Message_isBefore_33 : decode prog_7_method_3_code 33 = .ok (.iconst 1, 1) := by decide +kernel
theorem d_Message_isBefore_34 : decode prog_7_method_3_code 34 = .ok (.goto 4, 3) := by decide +kernel
theorem d_Message_isBefore_37 : decode prog_7_method_3_code 37 = .ok (.iconst 0, 1) := by decide +kernel
theorem d_Message_isBefore_38 : decode prog_7_method_3_code 38 = .ok (.ireturn, 1) := by decide +kernel
set_option maxHeartbeats 4000000 in
set_option maxRecDepth 20000 in
theorem c_Message_isBefore {P : xP} {F : xF} {z : Nat} {m : Nat} {id : Nat} {pr : Nat} {n : Nat} {s : Nat → Nat} {o : Nat} {ido : Nat} {pro : Nat} {no : Nat} {so : Nat → Nat} (hm : xMs F (m) (id) (pr) (n) (s)) (ho : xMs F (o) (ido) (pro) (no) (so))  : xM P xy_Message_isBefore [.ref m, .ref o] F (z) 0 0 (fun r9 F9 z9 => r9 = some (.int (xb (pro < pr ∨ (pr = pro ∧ id < ido)))) ∧ F9 = F ∧ z9 = z) := by
  refine xM_i .boolean rfl (Nat.le_of_ble_eq_true rfl) (L0 := [some (.ref m), some (.ref o)]) rfl rfl fun Θ hC hret => ?_
  have hb1 := hm.2.2
  have hb2 := ho.2.2
  refine x_aload_n hC d_Message_isBefore_0 rfl rfl ?_
  refine x_getf hC kf_Message_28 hm.1 rfl d_Message_isBefore_1 ?_
  refine x_aload_n hC d_Message_isBefore_4 rfl rfl ?_
  refine x_getf hC kf_Message_28 ho.1 rfl d_Message_isBefore_5 ?_
  refine x_icmpN_gt hC d_Message_isBefore_8 (tgt := 33) (by decide) (by omega) (by omega) (fun c_8 => ?_) (fun c_8 => ?_)
  · skip
    refine x_iconst hC d_Message_isBefore_33 (v := nI 1) (by decide) ?_
    refine x_goto hC d_Message_isBefore_34 (tgt := 38) (by decide) ?_
    exact hret _ _ _ _ _ _ _ d_Message_isBefore_38 (by decide) (by decide) rfl (⟨congrArg (fun q => some (Value.int q)) (xb_t1 (by omega)), rfl, rfl⟩)
  · skip
    refine x_aload_n hC d_Message_isBefore_11 rfl rfl ?_
    refine x_getf hC kf_Message_28 hm.1 rfl d_Message_isBefore_12 ?_
    refine x_aload_n hC d_Message_isBefore_15 rfl rfl ?_
    refine x_getf hC kf_Message_28 ho.1 rfl d_Message_isBefore_16 ?_
    refine x_icmpN_ne hC d_Message_isBefore_19 (tgt := 37) (by decide) (by omega) (by omega) (fun c_19 => ?_) (fun c_19 => ?_)
    · skip
      refine x_iconst hC d_Message_isBefore_37 (v := nI 0) (by decide) ?_
      exact hret _ _ _ _ _ _ _ d_Message_isBefore_38 (by decide) (by decide) rfl (⟨congrArg (fun q => some (Value.int q)) (xb_f0 (by omega)), rfl, rfl⟩)
    · skip
      refine x_aload_n hC d_Message_isBefore_22 rfl rfl ?_
      refine x_getf hC kf_Message_24 hm.1 rfl d_Message_isBefore_23 ?_
      refine x_aload_n hC d_Message_isBefore_26 rfl rfl ?_
      refine x_getf hC kf_Message_24 ho.1 rfl d_Message_isBefore_27 ?_
      refine x_icmpN_ge hC d_Message_isBefore_30 (tgt := 37) (by decide) (by omega) (by omega) (fun c_30 => ?_) (fun c_30 => ?_)
      · skip
        refine x_iconst hC d_Message_isBefore_37 (v := nI 0) (by decide) ?_
        exact hret _ _ _ _ _ _ _ d_Message_isBefore_38 (by decide) (by decide) rfl (⟨congrArg (fun q => some (Value.int q)) (xb_f0 (by omega)), rfl, rfl⟩)
      · skip
        refine x_iconst hC d_Message_isBefore_33 (v := nI 1) (by decide) ?_
        refine x_goto hC d_Message_isBefore_34 (tgt := 38) (by decide) ?_
        exact hret _ _ _ _ _ _ _ d_Message_isBefore_38 (by decide) (by decide) rfl (⟨congrArg (fun q => some (Value.int q)) (xb_t1 (by omega)), rfl, rfl⟩)

theorem d_Bits_init_0 : decode prog_3_method_1_code 0 = .ok (.aload_n 0, 1) := by decide +kernel
theorem d_Bits_init_1 : decode prog_3_method_1_code 1 = .ok (.invokespecial 3, 3) := by decide +kernel
theorem d_Bits_init_4 : decode prog_3_method_1_code 4 = .ok (.aload_n 0, 1) := by decide +kernel
theorem d_Bits_init_5 : decode prog_3_method_1_code 5 = .ok (.bipush 112, 2) := by decide +kernel
theorem d_Bits_init_7 : decode prog_3_method_1_code 7 = .ok (.newarray .int, 2) := by decide +kernel
theorem d_Bits_init_9 : decode prog_3_method_1_code 9 = .ok (.putfield 9, 3) := by decide +kernel
theorem d_Bits_init_12 : decode prog_3_method_1_code 12 = .ok (.return_, 1) := by decide +kernel
set_option maxHeartbeats 4000000 in
set_option maxRecDepth 20000 in
theorem c_Bits_init {P : xP} {F : xF} {b : Nat} (h0 : F (b) = some (.inl (0, [.null, .int (nI 0)])))  : xM P xy_Bits_init [.ref b] F (b + 1) 1 112 (fun r9 F9 z9 => r9 = none ∧ z9 = b + 2 ∧ xBt F9 (b) (0) ((fun _ => 0)) ∧ (∀ a9 : Nat, (a9 < b ∨ b + 2 ≤ a9) → F9 a9 = F a9)) := by
  refine xM_v rfl (Nat.le_of_ble_eq_true rfl) (L0 := [some (.ref b)]) rfl rfl fun Θ hC hin hret => ?_
  have hag : ∀ a9 : Nat, (a9 < b ∨ b + 2 ≤ a9) → F a9 = F a9 := fun a9 _ => rfl
  refine x_aload_n hC d_Bits_init_0 rfl rfl ?_
  refine x_objInit hC ko_Bits_3 rfl (by decide) (Nat.le_of_ble_eq_true rfl) d_Bits_init_1 ?_
  refine x_aload_n hC d_Bits_init_4 rfl rfl ?_
  refine x_bipush hC d_Bits_init_5 (v := nI 112) (by decide) ?_
  refine x_newa hC (t := 0) rfl (by decide) (by decide) (x_in (x_of (xtb_1 (List.mem_of_getElem? (i := 109) (by decide +kernel)))) (by decide +kernel)) rfl (by omega) (by decide) (by decide) (f1 := fun b9 => .int (nI ((fun _ => 0) b9))) rfl d_Bits_init_7 ?_
  generalize e1 : xup F (b + 1) (.inr (0, 112, fun b9 => .int (nI ((fun _ => 0) b9)))) = F1
  have h0 : F1 (b) = some (.inl (0, [.null, .int (nI 0)])) := by rw [← e1]; exact (xup_ne (by omega)).trans h0
  have h1 : F1 (b + 1) = some (.inr (0, 112, fun b9 => .int (nI ((fun _ => 0) b9)))) := by rw [← e1]; exact xup_eq
  have hag : ∀ a9 : Nat, (a9 < b ∨ b + 2 ≤ a9) → F1 a9 = F a9 := fun a9 q0 => by rw [← e1]; exact (xup_ne (by omega)).trans (hag a9 q0)
  refine x_putF hC hin kk_Bits_9 h0 (Nat.le_of_ble_eq_true rfl) rfl rfl d_Bits_init_9 (fs1 := [.ref (b + 1), .int (nI 0)]) rfl ?_
  generalize e2 : xup F1 (b) (.inl (0, [.ref (b + 1), .int (nI 0)])) = F2
  have h0 : F2 (b) = some (.inl (0, [.ref (b + 1), .int (nI 0)])) := by rw [← e2]; exact xup_eq
  have h1 : F2 (b + 1) = some (.inr (0, 112, fun b9 => .int (nI ((fun _ => 0) b9)))) := by rw [← e2]; exact (xup_ne (by omega)).trans h1
  have hag : ∀ a9 : Nat, (a9 < b ∨ b + 2 ≤ a9) → F2 a9 = F a9 := fun a9 q0 => by rw [← e2]; exact (xup_ne (by omega)).trans (hag a9 q0)
  exact hret _ _ _ _ _ _ d_Bits_init_12 (by decide) (by decide) (⟨rfl, rfl, ⟨h0, by omega, fun j hj => absurd hj (by omega), _, h1, fun j hj => absurd hj (by omega)⟩, hag⟩)

theorem d_Bits_add_0 : decode prog_3_method_3_code 0 = .ok (.aload_n 0, 1) := by decide +kernel
theorem d_Bits_add_1 : decode prog_3_method_3_code 1 = .ok (.getfield 15, 3) := by decide +kernel
theorem d_Bits_add_4 : decode prog_3_method_3_code 4 = .ok (.aload_n 0, 1) := by decide +kernel
theorem d_Bits_add_5 : decode prog_3_method_3_code 5 = .ok (.getfield 9, 3) := by decide +kernel
theorem d_Bits_add_8 : decode prog_3_method_3_code 8 = .ok (.arraylength, 1) := by decide +kernel
theorem d_Bits_add_9 : decode prog_3_method_3_code 9 = .ok (.if_icmp .ge 23, 3) := by decide +kernel
theorem d_Bits_add_12 : decode prog_3_method_3_code 12 = .ok (.aload_n 0, 1) := by decide +kernel
theorem d_Bits_add_13 : decode prog_3_method_3_code 13 = .ok (.getfield 9, 3) := by decide +kernel
theorem d_Bits_add_16 : decode prog_3_method_3_code 16 = .ok (.aload_n 0, 1) := by decide +kernel
theorem d_Bits_add_17 : decode prog_3_method_3_code 17 = .ok (.getfield 15, 3) := by decide +kernel
theorem d_Bits_add_20 : decode prog_3_method_3_code 20 = .ok (.iload_n 1, 1) := by decide +kernel
theorem d_Bits_add_21 : decode prog_3_method_3_code 21 = .ok (.iastore, 1) := by decide +kernel
theorem d_Bits_add_22 : decode prog_3_method_3_code 22 = .ok (.aload_n 0, 1) := by decide +kernel
theorem d_Bits_add_23 : decode prog_3_method_3_code 23 = .ok (.dup, 1) := by decide +kernel
theorem d_Bits_add_24 : decode prog_3_method_3_code 24 = .ok (.getfield 15, 3) := by decide +kernel
theorem d_Bits_add_27 : decode prog_3_method_3_code 27 = .ok (.iconst 1, 1) := by decide +kernel
theorem d_Bits_add_28 : decode prog_3_method_3_code 28 = .ok (.iadd, 1) := by decide +kernel
theorem d_Bits_add_29 : decode prog_3_method_3_code 29 = .ok (.putfield 15, 3) := by decide +kernel
theorem d_Bits_add_32 : decode prog_3_method_3_code 32 = .ok (.return_, 1) := by decide +kernel
set_option maxHeartbeats 4000000 in
set_option maxRecDepth 20000 in
theorem c_Bits_add {P : xP} {F : xF} {z : Nat} {b : Nat} {n : Nat} {f : Nat → Nat} {x : Nat} (hb : xBt F (b) (n) (f)) (hlt : n < 112) (hx : x ≤ 1) : xM P xy_Bits_add [.ref b, .int (nI (x))] F (z) 0 0 (fun r9 F9 z9 => r9 = none ∧ z9 = z ∧ xBt F9 (b) (n + 1) ((updN f n x)) ∧ (∀ a9 : Nat, (a9 < b ∨ b + 2 ≤ a9) → F9 a9 = F a9)) := by
  refine xM_v rfl (Nat.le_of_ble_eq_true rfl) (L0 := [some (.ref b), some (.int (nI (x)))]) rfl rfl fun Θ hC hin hret => ?_
  have hag : ∀ a9 : Nat, (a9 < b ∨ b + 2 ≤ a9) → F a9 = F a9 := fun a9 _ => rfl
  obtain ⟨h0hb, hnhb, hfhb, ghb, h1hb, hghb⟩ := hb
  refine x_aload_n hC d_Bits_add_0 rfl rfl ?_
  refine x_getf hC kf_Bits_15 h0hb rfl d_Bits_add_1 ?_
  refine x_aload_n hC d_Bits_add_4 rfl rfl ?_
  refine x_getf hC kf_Bits_9 h0hb rfl d_Bits_add_5 ?_
  refine x_alen hC h1hb (by decide) rfl d_Bits_add_8 ?_
  refine x_icmpN_ge hC d_Bits_add_9 (tgt := 32) (by decide) (by omega) (by omega) (fun c_9 => ?_) (fun c_9 => ?_)
  · skip
    exact absurd c_9 (by omega)
  · skip
    refine x_aload_n hC d_Bits_add_12 rfl rfl ?_
    refine x_getf hC kf_Bits_9 h0hb rfl d_Bits_add_13 ?_
    refine x_aload_n hC d_Bits_add_16 rfl rfl ?_
    refine x_getf hC kf_Bits_15 h0hb rfl d_Bits_add_17 ?_
    refine x_iload_n hC d_Bits_add_20 rfl rfl ?_
    refine x_iast hC h1hb (j := n) ⟨rfl, by omega, by omega⟩ d_Bits_add_21 (g1 := fun b9 => nI (updN ghb (n) (x) b9)) (x_updN _ _ _) ?_
    generalize eq1 : updN ghb (n) (x) = q1
    generalize e2 : xup F (b + 1) (.inr (0, 112, fun b9 => .int (nI (q1 b9)))) = F2
    have h0hb : F2 (b) = some (.inl (0, [.ref (b + 1), .int (nI (n))])) := by rw [← e2]; exact (xup_ne (by omega)).trans h0hb
    have h1hb : F2 (b + 1) = some (.inr (0, 112, fun b9 => .int (nI (q1 b9)))) := by rw [← e2]; exact xup_eq
    have hag : ∀ a9 : Nat, (a9 < b ∨ b + 2 ≤ a9) → F2 a9 = F a9 := fun a9 q0 => by rw [← e2]; exact (xup_ne (by omega)).trans (hag a9 q0)
    refine x_aload_n hC d_Bits_add_22 rfl rfl ?_
    refine x_dup hC d_Bits_add_23 rfl ?_
    refine x_getf hC kf_Bits_15 h0hb rfl d_Bits_add_24 ?_
    refine x_iconst hC d_Bits_add_27 (v := nI 1) (by decide) ?_
    refine x_iadd hC d_Bits_add_28 (v := (nI (n + 1))) (x_addN (by omega)) ?_
    refine x_putf hC kf_Bits_15 h0hb (Nat.le_of_ble_eq_true rfl) rfl rfl d_Bits_add_29 (fs1 := [.ref (b + 1), .int (nI (n + 1))]) rfl ?_
    generalize e3 : xup F2 (b) (.inl (0, [.ref (b + 1), .int (nI (n + 1))])) = F3
    have h0hb : F3 (b) = some (.inl (0, [.ref (b + 1), .int (nI (n + 1))])) := by rw [← e3]; exact xup_eq
    have h1hb : F3 (b + 1) = some (.inr (0, 112, fun b9 => .int (nI (q1 b9)))) := by rw [← e3]; exact (xup_ne (by omega)).trans h1hb
    have hag : ∀ a9 : Nat, (a9 < b ∨ b + 2 ≤ a9) → F3 a9 = F a9 := fun a9 q0 => by rw [← e3]; exact (xup_ne (by omega)).trans (hag a9 q0)
    exact hret _ _ _ _ _ _ d_Bits_add_32 (by decide) (by decide) (⟨rfl, rfl, ⟨h0hb, by omega, fun j hj => (Nat.lt_or_ge j n).elim (fun q => by rw [updN_ne (by omega)]; exact hfhb j q) (fun q => by rw [show j = n by omega, updN_eq]; exact hx), q1, h1hb, fun j hj => (Nat.lt_or_ge j n).elim (fun q => by rw [← eq1, updN_ne (by omega), updN_ne (by omega)]; exact hghb j q) (fun q => by rw [← eq1, show j = n by omega, updN_eq, updN_eq])⟩, hag⟩)

theorem d_Bits_at_0 : decode prog_3_method_4_code 0 = .ok (.iload_n 1, 1) := by decide +kernel
theorem d_Bits_at_1 : decode prog_3_method_4_code 1 = .ok (.ifCond .lt 20, 3) := by decide +kernel
theorem d_Bits_at_4 : decode prog_3_method_4_code 4 = .ok (.iload_n 1, 1) := by decide +kernel
theorem d_Bits_at_5 : decode prog_3_method_4_code 5 = .ok (.aload_n 0, 1) := by decide +kernel
theorem d_Bits_at_6 : decode prog_3_method_4_code 6 = .ok (.getfield 15, 3) := by decide +kernel
theorem d_Bits_at_9 : decode prog_3_method_4_code 9 = .ok (.if_icmp .ge 12, 3) := by decide +kernel
theorem d_Bits_at_12 : decode prog_3_method_4_code 12 = .ok (.aload_n 0, 1) := by decide +kernel
theorem d_Bits_at_13 : decode prog_3_method_4_code 13 = .ok (.getfield 9, 3) := by decide +kernel
theorem d_Bits_at_16 : decode prog_3_method_4_code 16 = .ok (.iload_n 1, 1) := by decide +kernel
theorem d_Bits_at_17 : decode prog_3_method_4_code 17 = .ok (.iaload, 1) := by decide +kernel
theorem d_Bits_at_18 : decode prog_3_method_4_code 18 = .ok (.goto 4, 3) := by decide +kernel
theorem d_Bits_at_21 : decode prog_3_method_4_code 21 = .ok (.iconst 0, 1) := by decide +kernel
theorem d_Bits_at_22 : decode prog_3_method_4_code 22 = .ok (.ireturn, 1) := by decide +kernel
set_option maxHeartbeats 4000000 in
set_option maxRecDepth 20000 in
theorem c_Bits_at {P : xP} {F : xF} {z : Nat} {b : Nat} {n : Nat} {f : Nat → Nat} {q : Nat} {lz : Nat} (hb : xBt F (b) (n) (f)) (hq : q < 2 ^ 30) (hlz : lz < 2 ^ 30) : xM P xy_Bits_at [.ref b, .int (nI q - nI lz)] F (z) 0 0 (fun r9 F9 z9 => r9 = some (.int (nI (zbt n f lz q))) ∧ F9 = F ∧ z9 = z) := by
  refine xM_i .int rfl (Nat.le_of_ble_eq_true rfl) (L0 := [some (.ref b), some (.int (nI q - nI lz))]) rfl rfl fun Θ hC hret => ?_
  obtain ⟨h0hb, hnhb, hfhb, ghb, h1hb, hghb⟩ := hb
  refine x_iload_n hC d_Bits_at_0 rfl rfl ?_
  refine x_if_lt hC d_Bits_at_1 (tgt := 21) (by decide) (fun c_1 => ?_) (fun c_1 => ?_)
  · skip
    refine x_iconst hC d_Bits_at_21 (v := nI 0) (by decide) ?_
    exact hret _ _ _ _ _ _ _ d_Bits_at_22 (by decide) (by decide) rfl (⟨congrArg (fun q => some (Value.int (nI q))) (by rw [zbt, if_neg (by have := (x_sublt hq hlz).mp c_1; omega)]), rfl, rfl⟩)
  · skip
    refine x_iload_n hC d_Bits_at_4 rfl rfl ?_
    refine x_aload_n hC d_Bits_at_5 rfl rfl ?_
    refine x_getf hC kf_Bits_15 h0hb rfl d_Bits_at_6 ?_
    refine x_icmp_ge hC d_Bits_at_9 (tgt := 21) (by decide) (fun c_9 => ?_) (fun c_9 => ?_)
    · skip
      refine x_iconst hC d_Bits_at_21 (v := nI 0) (by decide) ?_
      exact hret _ _ _ _ _ _ _ d_Bits_at_22 (by decide) (by decide) rfl (⟨congrArg (fun q => some (Value.int (nI q))) (by rw [zbt, if_neg (by have := (x_suble hq hlz (by omega)).mp c_9; omega)]), rfl, rfl⟩)
    · skip
      refine x_aload_n hC d_Bits_at_12 rfl rfl ?_
      refine x_getf hC kf_Bits_9 h0hb rfl d_Bits_at_13 ?_
      refine x_iload_n hC d_Bits_at_16 rfl rfl ?_
      refine x_iald hC h1hb (j := q - lz) ⟨pk_sub (by have h8 : ¬ q < lz := fun e => c_1 ((x_sublt hq hlz).mpr e); omega), by have h9 : ¬ n + lz ≤ q := fun e => c_9 ((x_suble hq hlz (by omega)).mpr e); have h8 : ¬ q < lz := fun e => c_1 ((x_sublt hq hlz).mpr e); omega, by decide⟩ (x := nI (ghb (q - lz))) rfl d_Bits_at_17 ?_
      refine x_goto hC d_Bits_at_18 (tgt := 22) (by decide) ?_
      exact hret _ _ _ _ _ _ _ d_Bits_at_22 (by decide) (by decide) rfl (⟨congrArg (fun q => some (Value.int (nI q))) (by have h8 : ¬ q < lz := fun e => c_1 ((x_sublt hq hlz).mpr e); have h9 : ¬ n + lz ≤ q := fun e => c_9 ((x_suble hq hlz (by omega)).mpr e); rw [zbt, if_pos (by omega)]; exact hghb _ (by omega)), rfl, rfl⟩)

theorem d_Bits_fourFrom_0 : decode prog_3_method_5_code 0 = .ok (.iconst 0, 1) := by decide +kernel
theorem d_Bits_fourFrom_1 : decode prog_3_method_5_code 1 = .ok (.istore_n 2, 1) := by decide +kernel
theorem d_Bits_fourFrom_2 : decode prog_3_method_5_code 2 = .ok (.iconst 0, 1) := by decide +kernel
theorem d_Bits_fourFrom_3 : decode prog_3_method_5_code 3 = .ok (.istore_n 3, 1) := by decide +kernel
theorem d_Bits_fourFrom_4 : decode prog_3_method_5_code 4 = .ok (.iload_n 3, 1) := by decide +kernel
theorem d_Bits_fourFrom_5 : decode prog_3_method_5_code 5 = .ok (.iconst 4, 1) := by decide +kernel
theorem d_Bits_fourFrom_6 : decode prog_3_method_5_code 6 = .ok (.if_icmp .ge 21, 3) := by decide +kernel
theorem d_Bits_fourFrom_9 : decode prog_3_method_5_code 9 = .ok (.iload_n 2, 1) := by decide +kernel
theorem d_Bits_fourFrom_10 : decode prog_3_method_5_code 10 = .ok (.iconst 1, 1) := by decide +kernel
theorem d_Bits_fourFrom_11 : decode prog_3_method_5_code 11 = .ok (.ishl, 1) := by decide +kernel
theorem d_Bits_fourFrom_12 : decode prog_3_method_5_code 12 = .ok (.aload_n 0, 1) := by decide +kernel
theorem d_Bits_fourFrom_13 : decode prog_3_method_5_code 13 = .ok (.iload_n 1, 1) := by decide +kernel
theorem d_Bits_fourFrom_14 : decode prog_3_method_5_code 14 = .ok (.iload_n 3, 1) := by decide +kernel
theorem d_Bits_fourFrom_15 : decode prog_3_method_5_code 15 = .ok (.iadd, 1) := by decide +kernel
theorem d_Bits_fourFrom_16 : decode prog_3_method_5_code 16 = .ok (.invokevirtual 39, 3) := by decide +kernel
theorem d_Bits_fourFrom_19 : decode prog_3_method_5_code 19 = .ok (.ior, 1) := by decide +kernel
theorem d_Bits_fourFrom_20 : decode prog_3_method_5_code 20 = .ok (.istore_n 2, 1) := by decide +kernel
theorem d_Bits_fourFrom_21 : decode prog_3_method_5_code 21 = .ok (.iinc 3 1, 3) := by decide +kernel
theorem d_Bits_fourFrom_24 : decode prog_3_method_5_code 24 = .ok (.goto (-20), 3) := by decide +kernel
theorem d_Bits_fourFrom_27 : decode prog_3_method_5_code 27 = .ok (.iload_n 2, 1) := by decide +kernel
theorem d_Bits_fourFrom_28 : decode prog_3_method_5_code 28 = .ok (.ireturn, 1) := by decide +kernel
set_option maxHeartbeats 4000000 in
set_option maxRecDepth 20000 in
theorem c_Bits_fourFrom {P : xP} {F : xF} {z : Nat} {b : Nat} {n : Nat} {f : Nat → Nat} {q : Nat} {lz : Nat} (hb : xBt F (b) (n) (f)) (hq : q < 2 ^ 29) (hlz : lz < 2 ^ 29) : xM P xy_Bits_fourFrom [.ref b, .int (nI q - nI lz)] F (z) 0 0 (fun r9 F9 z9 => r9 = some (.int (nI (fourB n f lz q))) ∧ F9 = F ∧ z9 = z) := by
  refine xM_i .int rfl (Nat.le_of_ble_eq_true rfl) (L0 := [some (.ref b), some (.int (nI q - nI lz)), none, none]) rfl rfl fun Θ hC hret => ?_
  have z0 := zbt_le hb.2.2.1 lz q
  have z1 := zbt_le hb.2.2.1 lz (q + 1)
  have z2 := zbt_le hb.2.2.1 lz (q + 2)
  have z3 := zbt_le hb.2.2.1 lz (q + 3)
  refine x_iconst hC d_Bits_fourFrom_0 (v := nI 0) (by decide) ?_
  refine x_istore_n hC d_Bits_fourFrom_1 rfl (Nat.le_of_ble_eq_true rfl) (L1 := [some (.ref b), some (.int (nI q - nI lz)), some (.int (nI 0)), none]) rfl ?_
  refine x_iconst hC d_Bits_fourFrom_2 (v := nI 0) (by decide) ?_
  refine x_istore_n hC d_Bits_fourFrom_3 rfl (Nat.le_of_ble_eq_true rfl) (L1 := [some (.ref b), some (.int (nI q - nI lz)), some (.int (nI 0)), some (.int (nI 0))]) rfl ?_
  refine x_iload_n hC d_Bits_fourFrom_4 rfl rfl ?_
  refine x_iconst hC d_Bits_fourFrom_5 (v := nI 4) (by decide) ?_
  refine x_icmpN_ge hC d_Bits_fourFrom_6 (tgt := 27) (by decide) (by omega) (by omega) (fun c_6 => ?_) (fun c_6 => ?_)
  · skip
    exact absurd c_6 (by omega)
  · skip
    refine x_iload_n hC d_Bits_fourFrom_9 rfl rfl ?_
    refine x_iconst hC d_Bits_fourFrom_10 (v := nI 1) (by decide) ?_
    refine x_ishl hC d_Bits_fourFrom_11 (v := (nI (0))) (x_shlN 1 (by omega) (by omega) (by rw [Nat.pow_one])) ?_
    refine x_aload_n hC d_Bits_fourFrom_12 rfl rfl ?_
    refine x_iload_n hC d_Bits_fourFrom_13 rfl rfl ?_
    refine x_iload_n hC d_Bits_fourFrom_14 rfl rfl ?_
    refine x_iadd hC d_Bits_fourFrom_15 (v := (nI (q) - nI lz)) (x_subadd q lz 0) ?_
    refine x_callV hC kv_Bits_39 (c_Bits_at (hb := hb) (hq := by omega) (hlz := by omega) (q := q) (lz := lz)) hb.1 rfl rfl (by decide) rfl rfl rfl (Nat.le_of_ble_eq_true rfl) (by decide) d_Bits_fourFrom_16 (fun r9 F9 z9 hp9 => ?_)
    obtain ⟨rfl, h9b, h9c⟩ := hp9
    rw [h9b, h9c]
    clear h9b h9c F9 z9
    refine x_ior hC d_Bits_fourFrom_19 (v := (nI (0 * 2 + zbt n f lz q))) (x_or2 (a := 0) (by have := zbt_le hb.2.2.1 lz (q); omega)) ?_
    refine x_istore_n hC d_Bits_fourFrom_20 rfl (Nat.le_of_ble_eq_true rfl) (L1 := [some (.ref b), some (.int (nI q - nI lz)), some (.int (nI (0 * 2 + zbt n f lz q))), some (.int (nI 0))]) rfl ?_
    refine x_iinc hC d_Bits_fourFrom_21 rfl (v := (nI (1))) (x_incN 1) (Nat.le_of_ble_eq_true rfl) (L1 := [some (.ref b), some (.int (nI q - nI lz)), some (.int (nI (0 * 2 + zbt n f lz q))), some (.int (nI 1))]) rfl ?_
    refine x_goto hC d_Bits_fourFrom_24 (tgt := 4) (by decide) ?_
    refine x_iload_n hC d_Bits_fourFrom_4 rfl rfl ?_
    refine x_iconst hC d_Bits_fourFrom_5 (v := nI 4) (by decide) ?_
    refine x_icmpN_ge hC d_Bits_fourFrom_6 (tgt := 27) (by decide) (by omega) (by omega) (fun c_6 => ?_) (fun c_6 => ?_)
    · skip
      exact absurd c_6 (by omega)
    · skip
      refine x_iload_n hC d_Bits_fourFrom_9 rfl rfl ?_
      refine x_iconst hC d_Bits_fourFrom_10 (v := nI 1) (by decide) ?_
      refine x_ishl hC d_Bits_fourFrom_11 (v := (nI ((0 * 2 + zbt n f lz q) * 2))) (x_shlN 1 (by omega) (by omega) (by rw [Nat.pow_one])) ?_
      refine x_aload_n hC d_Bits_fourFrom_12 rfl rfl ?_
      refine x_iload_n hC d_Bits_fourFrom_13 rfl rfl ?_
      refine x_iload_n hC d_Bits_fourFrom_14 rfl rfl ?_
      refine x_iadd hC d_Bits_fourFrom_15 (v := (nI (q + 1) - nI lz)) (x_subadd q lz 1) ?_
      refine x_callV hC kv_Bits_39 (c_Bits_at (hb := hb) (hq := by omega) (hlz := by omega) (q := q + 1) (lz := lz)) hb.1 rfl rfl (by decide) rfl rfl rfl (Nat.le_of_ble_eq_true rfl) (by decide) d_Bits_fourFrom_16 (fun r9 F9 z9 hp9 => ?_)
      obtain ⟨rfl, h9b, h9c⟩ := hp9
      rw [h9b, h9c]
      clear h9b h9c F9 z9
      refine x_ior hC d_Bits_fourFrom_19 (v := (nI ((0 * 2 + zbt n f lz q) * 2 + zbt n f lz (q + 1)))) (x_or2 (by omega)) ?_
      refine x_istore_n hC d_Bits_fourFrom_20 rfl (Nat.le_of_ble_eq_true rfl) (L1 := [some (.ref b), some (.int (nI q - nI lz)), some (.int (nI ((0 * 2 + zbt n f lz q) * 2 + zbt n f lz (q + 1)))), some (.int (nI 1))]) rfl ?_
      refine x_iinc hC d_Bits_fourFrom_21 rfl (v := (nI (2))) (x_incN 1) (Nat.le_of_ble_eq_true rfl) (L1 := [some (.ref b), some (.int (nI q - nI lz)), some (.int (nI ((0 * 2 + zbt n f lz q) * 2 + zbt n f lz (q + 1)))), some (.int (nI 2))]) rfl ?_
      refine x_goto hC d_Bits_fourFrom_24 (tgt := 4) (by decide) ?_
      refine x_iload_n hC d_Bits_fourFrom_4 rfl rfl ?_
      refine x_iconst hC d_Bits_fourFrom_5 (v := nI 4) (by decide) ?_
      refine x_icmpN_ge hC d_Bits_fourFrom_6 (tgt := 27) (by decide) (by omega) (by omega) (fun c_6 => ?_) (fun c_6 => ?_)
      · skip
        exact absurd c_6 (by omega)
      · skip
        refine x_iload_n hC d_Bits_fourFrom_9 rfl rfl ?_
        refine x_iconst hC d_Bits_fourFrom_10 (v := nI 1) (by decide) ?_
        refine x_ishl hC d_Bits_fourFrom_11 (v := (nI (((0 * 2 + zbt n f lz q) * 2 + zbt n f lz (q + 1)) * 2))) (x_shlN 1 (by omega) (by omega) (by rw [Nat.pow_one])) ?_
        refine x_aload_n hC d_Bits_fourFrom_12 rfl rfl ?_
        refine x_iload_n hC d_Bits_fourFrom_13 rfl rfl ?_
        refine x_iload_n hC d_Bits_fourFrom_14 rfl rfl ?_
        refine x_iadd hC d_Bits_fourFrom_15 (v := (nI (q + 2) - nI lz)) (x_subadd q lz 2) ?_
        refine x_callV hC kv_Bits_39 (c_Bits_at (hb := hb) (hq := by omega) (hlz := by omega) (q := q + 2) (lz := lz)) hb.1 rfl rfl (by decide) rfl rfl rfl (Nat.le_of_ble_eq_true rfl) (by decide) d_Bits_fourFrom_16 (fun r9 F9 z9 hp9 => ?_)
        obtain ⟨rfl, h9b, h9c⟩ := hp9
        rw [h9b, h9c]
        clear h9b h9c F9 z9
        refine x_ior hC d_Bits_fourFrom_19 (v := (nI (((0 * 2 + zbt n f lz q) * 2 + zbt n f lz (q + 1)) * 2 + zbt n f lz (q + 2)))) (x_or2 (by omega)) ?_
        refine x_istore_n hC d_Bits_fourFrom_20 rfl (Nat.le_of_ble_eq_true rfl) (L1 := [some (.ref b), some (.int (nI q - nI lz)), some (.int (nI (((0 * 2 + zbt n f lz q) * 2 + zbt n f lz (q + 1)) * 2 + zbt n f lz (q + 2)))), some (.int (nI 2))]) rfl ?_
        refine x_iinc hC d_Bits_fourFrom_21 rfl (v := (nI (3))) (x_incN 1) (Nat.le_of_ble_eq_true rfl) (L1 := [some (.ref b), some (.int (nI q - nI lz)), some (.int (nI (((0 * 2 + zbt n f lz q) * 2 + zbt n f lz (q + 1)) * 2 + zbt n f lz (q + 2)))), some (.int (nI 3))]) rfl ?_
        refine x_goto hC d_Bits_fourFrom_24 (tgt := 4) (by decide) ?_
        refine x_iload_n hC d_Bits_fourFrom_4 rfl rfl ?_
        refine x_iconst hC d_Bits_fourFrom_5 (v := nI 4) (by decide) ?_
        refine x_icmpN_ge hC d_Bits_fourFrom_6 (tgt := 27) (by decide) (by omega) (by omega) (fun c_6 => ?_) (fun c_6 => ?_)
        · skip
          exact absurd c_6 (by omega)
        · skip
          refine x_iload_n hC d_Bits_fourFrom_9 rfl rfl ?_
          refine x_iconst hC d_Bits_fourFrom_10 (v := nI 1) (by decide) ?_
          refine x_ishl hC d_Bits_fourFrom_11 (v := (nI ((((0 * 2 + zbt n f lz q) * 2 + zbt n f lz (q + 1)) * 2 + zbt n f lz (q + 2)) * 2))) (x_shlN 1 (by omega) (by omega) (by rw [Nat.pow_one])) ?_
          refine x_aload_n hC d_Bits_fourFrom_12 rfl rfl ?_
          refine x_iload_n hC d_Bits_fourFrom_13 rfl rfl ?_
          refine x_iload_n hC d_Bits_fourFrom_14 rfl rfl ?_
          refine x_iadd hC d_Bits_fourFrom_15 (v := (nI (q + 3) - nI lz)) (x_subadd q lz 3) ?_
          refine x_callV hC kv_Bits_39 (c_Bits_at (hb := hb) (hq := by omega) (hlz := by omega) (q := q + 3) (lz := lz)) hb.1 rfl rfl (by decide) rfl rfl rfl (Nat.le_of_ble_eq_true rfl) (by decide) d_Bits_fourFrom_16 (fun r9 F9 z9 hp9 => ?_)
          obtain ⟨rfl, h9b, h9c⟩ := hp9
          rw [h9b, h9c]
          clear h9b h9c F9 z9
          refine x_ior hC d_Bits_fourFrom_19 (v := (nI ((((0 * 2 + zbt n f lz q) * 2 + zbt n f lz (q + 1)) * 2 + zbt n f lz (q + 2)) * 2 + zbt n f lz (q + 3)))) (x_or2 (by omega)) ?_
          refine x_istore_n hC d_Bits_fourFrom_20 rfl (Nat.le_of_ble_eq_true rfl) (L1 := [some (.ref b), some (.int (nI q - nI lz)), some (.int (nI ((((0 * 2 + zbt n f lz q) * 2 + zbt n f lz (q + 1)) * 2 + zbt n f lz (q + 2)) * 2 + zbt n f lz (q + 3)))), some (.int (nI 3))]) rfl ?_
          refine x_iinc hC d_Bits_fourFrom_21 rfl (v := (nI (4))) (x_incN 1) (Nat.le_of_ble_eq_true rfl) (L1 := [some (.ref b), some (.int (nI q - nI lz)), some (.int (nI ((((0 * 2 + zbt n f lz q) * 2 + zbt n f lz (q + 1)) * 2 + zbt n f lz (q + 2)) * 2 + zbt n f lz (q + 3)))), some (.int (nI 4))]) rfl ?_
          refine x_goto hC d_Bits_fourFrom_24 (tgt := 4) (by decide) ?_
          refine x_iload_n hC d_Bits_fourFrom_4 rfl rfl ?_
          refine x_iconst hC d_Bits_fourFrom_5 (v := nI 4) (by decide) ?_
          refine x_icmpN_ge hC d_Bits_fourFrom_6 (tgt := 27) (by decide) (by omega) (by omega) (fun c_6 => ?_) (fun c_6 => ?_)
          · skip
            refine x_iload_n hC d_Bits_fourFrom_27 rfl rfl ?_
            exact hret _ _ _ _ _ _ _ d_Bits_fourFrom_28 (by decide) (by decide) rfl (⟨congrArg (fun q => some (Value.int (nI q))) (by unfold fourB; omega), rfl, rfl⟩)
          · skip
            exact absurd c_6 (by omega)

theorem d_Bits_remainder_0 : decode prog_3_method_6_code 0 = .ok (.iconst 0, 1) := by decide +kernel
theorem d_Bits_remainder_1 : decode prog_3_method_6_code 1 = .ok (.istore_n 1, 1) := by decide +kernel
theorem d_Bits_remainder_2 : decode prog_3_method_6_code 2 = .ok (.iconst 0, 1) := by decide +kernel
theorem d_Bits_remainder_3 : decode prog_3_method_6_code 3 = .ok (.istore_n 2, 1) := by decide +kernel
theorem d_Bits_remainder_4 : decode prog_3_method_6_code 4 = .ok (.iload_n 2, 1) := by decide +kernel
theorem d_Bits_remainder_5 : decode prog_3_method_6_code 5 = .ok (.aload_n 0, 1) := by decide +kernel
theorem d_Bits_remainder_6 : decode prog_3_method_6_code 6 = .ok (.getfield 15, 3) := by decide +kernel
theorem d_Bits_remainder_9 : decode prog_3_method_6_code 9 = .ok (.iconst 4, 1) := by decide +kernel
theorem d_Bits_remainder_10 : decode prog_3_method_6_code 10 = .ok (.iadd, 1) := by decide +kernel
theorem d_Bits_remainder_11 : decode prog_3_method_6_code 11 = .ok (.if_icmp .ge 30, 3) := by decide +kernel
theorem d_Bits_remainder_14 : decode prog_3_method_6_code 14 = .ok (.iload_n 1, 1) := by decide +kernel
theorem d_Bits_remainder_15 : decode prog_3_method_6_code 15 = .ok (.iconst 1, 1) := by decide +kernel
theorem d_Bits_remainder_16 : decode prog_3_method_6_code 16 = .ok (.ishl, 1) := by decide +kernel
theorem d_Bits_remainder_17 : decode prog_3_method_6_code 17 = .ok (.aload_n 0, 1) := by decide +kernel
theorem d_Bits_remainder_18 : decode prog_3_method_6_code 18 = .ok (.iload_n 2, 1) := by decide +kernel
theorem d_Bits_remainder_19 : decode prog_3_method_6_code 19 = .ok (.invokevirtual 39, 3) := by decide +kernel
theorem d_Bits_remainder_22 : decode prog_3_method_6_code 22 = .ok (.ior, 1) := by decide +kernel
theorem d_Bits_remainder_23 : decode prog_3_method_6_code 23 = .ok (.istore_n 1, 1) := by decide +kernel
theorem d_Bits_remainder_24 : decode prog_3_method_6_code 24 = .ok (.iload_n 1, 1) := by decide +kernel
theorem d_Bits_remainder_25 : decode prog_3_method_6_code 25 = .ok (.bipush 16, 2) := by decide +kernel
theorem d_Bits_remainder_27 : decode prog_3_method_6_code 27 = .ok (.if_icmp .lt 8, 3) := by decide +kernel
theorem d_Bits_remainder_30 : decode prog_3_method_6_code 30 = .ok (.iload_n 1, 1) := by decide +kernel
theorem d_Bits_remainder_31 : decode prog_3_method_6_code 31 = .ok (.bipush 19, 2) := by decide +kernel
theorem d_Bits_remainder_33 : decode prog_3_method_6_code 33 = .ok (.ixor, 1) := by decide +kernel
theorem d_Bits_remainder_34 : decode prog_3_method_6_code 34 = .ok (.istore_n 1, 1) := by decide +kernel
theorem d_Bits_remainder_35 : decode prog_3_method_6_code 35 = .ok (.iinc 2 1, 3) := by decide +kernel
theorem d_Bits_remainder_38 : decode prog_3_method_6_code 38 = .ok (.goto (-34), 3) := by decide +kernel
theorem d_Bits_remainder_41 : decode prog_3_method_6_code 41 = .ok (.iload_n 1, 1) := by decide +kernel
theorem d_Bits_remainder_42 : decode prog_3_method_6_code 42 = .ok (.ireturn, 1) := by decide +kernel
set_option maxHeartbeats 4000000 in
set_option maxRecDepth 20000 in
theorem c_Bits_remainder {P : xP} {F : xF} {z : Nat} {b : Nat} {n : Nat} {f : Nat → Nat} (hb : xBt F (b) (n) (f))  : xM P xy_Bits_remainder [.ref b] F (z) 0 0 (fun r9 F9 z9 => r9 = some (.int (nI (crcB n f (n + 4)))) ∧ F9 = F ∧ z9 = z) := by
  refine xM_i .int rfl (Nat.le_of_ble_eq_true rfl) (L0 := [some (.ref b), none, none]) rfl rfl fun Θ hC hret => ?_
  have hn := hb.2.1
  have hf := hb.2.2.1
  refine x_iconst hC d_Bits_remainder_0 (v := nI 0) (by decide) ?_
  refine x_istore_n hC d_Bits_remainder_1 rfl (Nat.le_of_ble_eq_true rfl) (L1 := [some (.ref b), some (.int (nI 0)), none]) rfl ?_
  refine x_iconst hC d_Bits_remainder_2 (v := nI 0) (by decide) ?_
  refine x_istore_n hC d_Bits_remainder_3 rfl (Nat.le_of_ble_eq_true rfl) (L1 := [some (.ref b), some (.int (nI 0)), some (.int (nI 0))]) rfl ?_
  have loop_4 : ∀ (m9 : Nat) (i : Nat) (r : Nat), (xBt F (b) (n) (f)) → (i ≤ n + 4) → (r = crcB n f i) → (n + 4 - i < m9) → xX P Θ 4 [some (.ref b), some (.int (nI (r))), some (.int (nI (i)))] [] F (z) 0 0 := by
    intro m9
    induction m9 with
    | zero => intros; omega
    | succ m9 ih_4 =>
      intro  i r hb hi kr hm_4
      have hr15 : r ≤ 15 := by rw [kr]; exact crcB_le hf i
      refine x_iload_n hC d_Bits_remainder_4 rfl rfl ?_
      refine x_aload_n hC d_Bits_remainder_5 rfl rfl ?_
      refine x_getf hC kf_Bits_15 hb.1 rfl d_Bits_remainder_6 ?_
      refine x_iconst hC d_Bits_remainder_9 (v := nI 4) (by decide) ?_
      refine x_iadd hC d_Bits_remainder_10 (v := (nI (n + 4))) (x_addN (by omega)) ?_
      refine x_icmpN_ge hC d_Bits_remainder_11 (tgt := 41) (by decide) (by omega) (by omega) (fun c_11 => ?_) (fun c_11 => ?_)
      · skip
        refine x_iload_n hC d_Bits_remainder_41 rfl rfl ?_
        exact hret _ _ _ _ _ _ _ d_Bits_remainder_42 (by decide) (by decide) rfl (⟨by rw [kr, show i = n + 4 by omega], rfl, rfl⟩)
      · skip
        refine x_iload_n hC d_Bits_remainder_14 rfl rfl ?_
        refine x_iconst hC d_Bits_remainder_15 (v := nI 1) (by decide) ?_
        refine x_ishl hC d_Bits_remainder_16 (v := (nI (r * 2))) (x_shlN 1 (by omega) (by omega) (by rw [Nat.pow_one])) ?_
        refine x_aload_n hC d_Bits_remainder_17 rfl rfl ?_
        refine x_iload_n hC d_Bits_remainder_18 rfl rfl ?_
        refine x_top (v := (nI i - nI 0)) (x_sub0 i) ?_
        refine x_callV hC kv_Bits_39 (c_Bits_at (hb := hb) (hq := by omega) (hlz := by omega) (q := i) (lz := 0)) hb.1 rfl rfl (by decide) rfl rfl rfl (Nat.le_of_ble_eq_true rfl) (by decide) d_Bits_remainder_19 (fun r9 F9 z9 hp9 => ?_)
        obtain ⟨rfl, h9b, h9c⟩ := hp9
        rw [h9b, h9c]
        clear h9b h9c F9 z9
        have hz9 := zbt_le hf 0 i
        refine x_ior hC d_Bits_remainder_22 (v := (nI (r * 2 + zbt n f 0 i))) (x_or2 (by omega)) ?_
        refine x_istore_n hC d_Bits_remainder_23 rfl (Nat.le_of_ble_eq_true rfl) (L1 := [some (.ref b), some (.int (nI (r * 2 + zbt n f 0 i))), some (.int (nI (i)))]) rfl ?_
        refine x_iload_n hC d_Bits_remainder_24 rfl rfl ?_
        refine x_bipush hC d_Bits_remainder_25 (v := nI 16) (by decide) ?_
        refine x_icmpN_lt hC d_Bits_remainder_27 (tgt := 35) (by decide) (by omega) (by omega) (fun c_27 => ?_) (fun c_27 => ?_)
        · skip
          refine x_iinc hC d_Bits_remainder_35 rfl (v := (nI (i + 1))) (x_incN 1) (Nat.le_of_ble_eq_true rfl) (L1 := [some (.ref b), some (.int (nI (r * 2 + zbt n f 0 i))), some (.int (nI (i + 1)))]) rfl ?_
          refine x_goto hC d_Bits_remainder_38 (tgt := 4) (by decide) ?_
          exact ih_4  (i + 1) (r * 2 + zbt n f 0 i) hb (by omega) (by first | (rw [crcB, crcS, ← kr, if_pos (by omega)]; done) | (rw [crcB, crcS, ← kr, if_neg (by omega)])) (by omega)
        · skip
          refine x_iload_n hC d_Bits_remainder_30 rfl rfl ?_
          refine x_bipush hC d_Bits_remainder_31 (v := nI 19) (by decide) ?_
          refine x_ixor hC d_Bits_remainder_33 (v := (nI ((r * 2 + zbt n f 0 i) ^^^ 19))) (x_xorN _ _) ?_
          refine x_istore_n hC d_Bits_remainder_34 rfl (Nat.le_of_ble_eq_true rfl) (L1 := [some (.ref b), some (.int (nI ((r * 2 + zbt n f 0 i) ^^^ 19))), some (.int (nI (i)))]) rfl ?_
          refine x_iinc hC d_Bits_remainder_35 rfl (v := (nI (i + 1))) (x_incN 1) (Nat.le_of_ble_eq_true rfl) (L1 := [some (.ref b), some (.int (nI ((r * 2 + zbt n f 0 i) ^^^ 19))), some (.int (nI (i + 1)))]) rfl ?_
          refine x_goto hC d_Bits_remainder_38 (tgt := 4) (by decide) ?_
          exact ih_4  (i + 1) ((r * 2 + zbt n f 0 i) ^^^ 19) hb (by omega) (by first | (rw [crcB, crcS, ← kr, if_pos (by omega)]; done) | (rw [crcB, crcS, ← kr, if_neg (by omega)])) (by omega)
  exact loop_4 (n + 4 - 0 + 1)  (0) (0) hb (by omega) (rfl) (by omega)

theorem d_Bits_spell_0 : decode prog_3_method_2_code 0 = .ok (.aload_n 0, 1) := by decide +kernel
theorem d_Bits_spell_1 : decode prog_3_method_2_code 1 = .ok (.iconst 0, 1) := by decide +kernel
theorem d_Bits_spell_2 : decode prog_3_method_2_code 2 = .ok (.putfield 15, 3) := by decide +kernel
theorem d_Bits_spell_5 : decode prog_3_method_2_code 5 = .ok (.iconst 0, 1) := by decide +kernel
theorem d_Bits_spell_6 : decode prog_3_method_2_code 6 = .ok (.istore_n 3, 1) := by decide +kernel
theorem d_Bits_spell_7 : decode prog_3_method_2_code 7 = .ok (.iload_n 3, 1) := by decide +kernel
theorem d_Bits_spell_8 : decode prog_3_method_2_code 8 = .ok (.aload_n 1, 1) := by decide +kernel
theorem d_Bits_spell_9 : decode prog_3_method_2_code 9 = .ok (.getfield 19, 3) := by decide +kernel
theorem d_Bits_spell_12 : decode prog_3_method_2_code 12 = .ok (.if_icmp .ge 55, 3) := by decide +kernel
theorem d_Bits_spell_15 : decode prog_3_method_2_code 15 = .ok (.aload_n 2, 1) := by decide +kernel
theorem d_Bits_spell_16 : decode prog_3_method_2_code 16 = .ok (.aload_n 1, 1) := by decide +kernel
theorem d_Bits_spell_17 : decode prog_3_method_2_code 17 = .ok (.iload_n 3, 1) := by decide +kernel
theorem d_Bits_spell_18 : decode prog_3_method_2_code 18 = .ok (.invokevirtual 22, 3) := by decide +kernel
theorem d_Bits_spell_21 : decode prog_3_method_2_code 21 = .ok (.invokevirtual 26, 3) := by decide +kernel
theorem d_Bits_spell_24 : decode prog_3_method_2_code 24 = .ok (.istore 4, 2) := by decide +kernel
theorem d_Bits_spell_26 : decode prog_3_method_2_code 26 = .ok (.aload_n 2, 1) := by decide +kernel
theorem d_Bits_spell_27 : decode prog_3_method_2_code 27 = .ok (.aload_n 1, 1) := by decide +kernel
theorem d_Bits_spell_28 : decode prog_3_method_2_code 28 = .ok (.iload_n 3, 1) := by decide +kernel
theorem d_Bits_spell_29 : decode prog_3_method_2_code 29 = .ok (.invokevirtual 22, 3) := by decide +kernel
theorem d_Bits_spell_32 : decode prog_3_method_2_code 32 = .ok (.invokevirtual 32, 3) := by decide +kernel
theorem d_Bits_spell_35 : decode prog_3_method_2_code 35 = .ok (.iconst 1, 1) := by decide +kernel
theorem d_Bits_spell_36 : decode prog_3_method_2_code 36 = .ok (.isub, 1) := by decide +kernel
theorem d_Bits_spell_37 : decode prog_3_method_2_code 37 = .ok (.istore 5, 2) := by decide +kernel
theorem d_Bits_spell_39 : decode prog_3_method_2_code 39 = .ok (.iload 5, 2) := by decide +kernel
theorem d_Bits_spell_41 : decode prog_3_method_2_code 41 = .ok (.ifCond .lt 20, 3) := by decide +kernel
theorem d_Bits_spell_44 : decode prog_3_method_2_code 44 = .ok (.aload_n 0, 1) := by decide +kernel
theorem d_Bits_spell_45 : decode prog_3_method_2_code 45 = .ok (.iload 4, 2) := by decide +kernel
theorem d_Bits_spell_47 : decode prog_3_method_2_code 47 = .ok (.iload 5, 2) := by decide +kernel
theorem d_Bits_spell_49 : decode prog_3_method_2_code 49 = .ok (.ishr, 1) := by decide +kernel
theorem d_Bits_spell_50 : decode prog_3_method_2_code 50 = .ok (.iconst 1, 1) := by decide +kernel
theorem d_Bits_spell_51 : decode prog_3_method_2_code 51 = .ok (.iand, 1) := by decide +kernel
theorem d_Bits_spell_52 : decode prog_3_method_2_code 52 = .ok (.invokevirtual 35, 3) := by decide +kernel
theorem d_Bits_spell_55 : decode prog_3_method_2_code 55 = .ok (.iinc 5 (-1), 3) := by decide +kernel
theorem d_Bits_spell_58 : decode prog_3_method_2_code 58 = .ok (.goto (-19), 3) := by decide +kernel
theorem d_Bits_spell_61 : decode prog_3_method_2_code 61 = .ok (.iinc 3 1, 3) := by decide +kernel
theorem d_Bits_spell_64 : decode prog_3_method_2_code 64 = .ok (.goto (-57), 3) := by decide +kernel
theorem d_Bits_spell_67 : decode prog_3_method_2_code 67 = .ok (.return_, 1) := by decide +kernel
set_option maxHeartbeats 4000000 in
set_option maxRecDepth 20000 in
theorem c_Bits_spell {P : xP} {F : xF} {z : Nat} {b : Nat} {n : Nat} {f : Nat → Nat} {t : Nat} {cap : Nat} {n9 : Nat} {s : Nat → Nat} {c : Nat} {w : Nat → Nat} {ln : Nat → Nat} {vl : Nat → Nat} {od : Nat → Nat} {js : Nat} (hb : xBt F (b) (n) (f)) (ht : xTx F (t) (cap) (n9) (s)) (hc : xCd F (c) (w) (ln) (vl) (od) (js)) (hn16 : n9 ≤ 16) (hd1 : b + 2 ≤ t ∨ t + 2 ≤ b) (hd2 : b + 2 ≤ c ∨ c + 7 ≤ b) : xM P xy_Bits_spell [.ref b, .ref t, .ref c] F (z) 0 0 (fun r9 F9 z9 => r9 = none ∧ z9 = z ∧ xBt F9 (b) ((bitsN ln s n9)) ((splB ln vl s n9)) ∧ xTx F9 (t) (cap) (n9) (s) ∧ xCd F9 (c) (w) (ln) (vl) (od) (js) ∧ (∀ a9 : Nat, (a9 < b ∨ b + 2 ≤ a9) → F9 a9 = F a9)) := by
  refine xM_v rfl (Nat.le_of_ble_eq_true rfl) (L0 := [some (.ref b), some (.ref t), some (.ref c), none, none, none]) rfl rfl fun Θ hC hin hret => ?_
  have hag : ∀ a9 : Nat, (a9 < b ∨ b + 2 ≤ a9) → F a9 = F a9 := fun a9 _ => rfl
  obtain ⟨h0hb, hnhb, hfhb, ghb, h1hb, hghb⟩ := id hb
  have hlt := ht.2.1
  have hbt := ht.2.2.1
  have hbd := hc.2.2.2.2.2.2.2.1
  refine x_aload_n hC d_Bits_spell_0 rfl rfl ?_
  refine x_iconst hC d_Bits_spell_1 (v := nI 0) (by decide) ?_
  refine x_putf hC kf_Bits_15 h0hb (Nat.le_of_ble_eq_true rfl) rfl rfl d_Bits_spell_2 (fs1 := [.ref (b + 1), .int (nI 0)]) rfl ?_
  generalize e1 : xup F (b) (.inl (0, [.ref (b + 1), .int (nI 0)])) = F1
  have h0hb : F1 (b) = some (.inl (0, [.ref (b + 1), .int (nI 0)])) := by rw [← e1]; exact xup_eq
  have h1hb : F1 (b + 1) = some (.inr (0, 112, fun b9 => .int (nI (ghb b9)))) := by rw [← e1]; exact (xup_ne (by omega)).trans h1hb
  have ht : xTx F1 (t) (cap) (n9) (s) := xTx_fr ht (fun a9 q1 q2 => by rw [← e1]; exact xup_ne (by omega))
  have hc : xCd F1 (c) (w) (ln) (vl) (od) (js) := xCd_fr hc (fun a9 q1 q2 => by rw [← e1]; exact xup_ne (by omega))
  have hag : ∀ a9 : Nat, (a9 < b ∨ b + 2 ≤ a9) → F1 a9 = F a9 := fun a9 q0 => by rw [← e1]; exact (xup_ne (by omega)).trans (hag a9 q0)
  have hb : xBt F1 b 0 (splB ln vl s 0) := ⟨h0hb, by omega, fun j hj => absurd hj (by omega), _, h1hb, fun j hj => absurd hj (by omega)⟩
  refine x_iconst hC d_Bits_spell_5 (v := nI 0) (by decide) ?_
  refine x_istore_n hC d_Bits_spell_6 rfl (Nat.le_of_ble_eq_true rfl) (L1 := [some (.ref b), some (.ref t), some (.ref c), some (.int (nI 0)), none, none]) rfl ?_
  have loop_7 : ∀ (m9 : Nat) (Fh7 : xF) (i : Nat), (xBt Fh7 (b) ((bitsN ln s i)) ((splB ln vl s i))) → (xTx Fh7 (t) (cap) (n9) (s)) → (xCd Fh7 (c) (w) (ln) (vl) (od) (js)) → (∀ a9 : Nat, (a9 < b ∨ b + 2 ≤ a9) → Fh7 a9 = F a9) → (i ≤ n9) → (n9 - i < m9) → xX P Θ 7 [some (.ref b), some (.ref t), some (.ref c), some (.int (nI (i))), none, none] [] Fh7 (z) 0 0 := by
    intro m9
    induction m9 with
    | zero => intros; omega
    | succ m9 ih_7 =>
      intro Fh7 i hb ht hc hag hi hm_7
      refine x_iload_n hC d_Bits_spell_7 rfl rfl ?_
      refine x_aload_n hC d_Bits_spell_8 rfl rfl ?_
      refine x_getf hC kf_Bits_19 ht.1 rfl d_Bits_spell_9 ?_
      refine x_icmpN_ge hC d_Bits_spell_12 (tgt := 67) (by decide) (by omega) (by omega) (fun c_12 => ?_) (fun c_12 => ?_)
      · skip
        refine hret _ _ _ _ _ _ d_Bits_spell_67 (by decide) (by decide) ?_
        obtain rfl : i = n9 := by omega
        exact ⟨rfl, rfl, hb, ht, hc, hag⟩
      · skip
        have hsi : (if i < n9 then s i else 0) = s i := if_pos (by omega)
        have hl7 : lenF ln (s i) ≤ 7 := lenF_le (fun j hj => (hbd j hj).2.1) _
        have hv9 : lenF vl (s i) < 2000 := by unfold lenF; split; exact (hbd _ (by omega)).2.2.1; omega
        have hbn := bitsN_le (ln := ln) (fun j hj => (hbd j hj).2.1) s i
        refine x_aload_n hC d_Bits_spell_15 rfl rfl ?_
        refine x_aload_n hC d_Bits_spell_16 rfl rfl ?_
        refine x_iload_n hC d_Bits_spell_17 rfl rfl ?_
        refine x_callV hC kv_Bits_22 (c_Text_at (ht := ht) (hi := by omega)) ht.1 rfl rfl (by decide) rfl rfl rfl (Nat.le_of_ble_eq_true rfl) (by decide) d_Bits_spell_18 (fun r9 F9 z9 hp9 => ?_)
        obtain ⟨rfl, h9b, h9c⟩ := hp9
        rw [h9b, h9c]
        clear h9b h9c F9 z9
        refine x_callV hC kv_Bits_26 (c_Code_valueFor (hc := hc) (hs := by rw [if_pos (by omega)]; have := hbt i (by omega); omega)) hc.1 rfl rfl (by decide) rfl rfl rfl (Nat.le_of_ble_eq_true rfl) (by decide) d_Bits_spell_21 (fun r9 F9 z9 hp9 => ?_)
        obtain ⟨rfl, h9b, h9c⟩ := hp9
        rw [h9b, h9c]
        clear h9b h9c F9 z9
        refine x_top (v := (nI (lenF vl (s i)))) (by rw [hsi]) ?_
        refine x_istore hC d_Bits_spell_24 (Nat.le_of_ble_eq_true rfl) (L1 := [some (.ref b), some (.ref t), some (.ref c), some (.int (nI (i))), some (.int (nI (lenF vl (s i)))), none]) rfl ?_
        refine x_aload_n hC d_Bits_spell_26 rfl rfl ?_
        refine x_aload_n hC d_Bits_spell_27 rfl rfl ?_
        refine x_iload_n hC d_Bits_spell_28 rfl rfl ?_
        refine x_callV hC kv_Bits_22 (c_Text_at (ht := ht) (hi := by omega)) ht.1 rfl rfl (by decide) rfl rfl rfl (Nat.le_of_ble_eq_true rfl) (by decide) d_Bits_spell_29 (fun r9 F9 z9 hp9 => ?_)
        obtain ⟨rfl, h9b, h9c⟩ := hp9
        rw [h9b, h9c]
        clear h9b h9c F9 z9
        refine x_callV hC kv_Bits_32 (c_Code_lengthFor (hc := hc) (hs := by rw [if_pos (by omega)]; have := hbt i (by omega); omega)) hc.1 rfl rfl (by decide) rfl rfl rfl (Nat.le_of_ble_eq_true rfl) (by decide) d_Bits_spell_32 (fun r9 F9 z9 hp9 => ?_)
        obtain ⟨rfl, h9b, h9c⟩ := hp9
        rw [h9b, h9c]
        clear h9b h9c F9 z9
        refine x_top (v := (nI (lenF ln (s i)))) (by rw [hsi]) ?_
        refine x_iconst hC d_Bits_spell_35 (v := nI 1) (by decide) ?_
        refine x_isub hC d_Bits_spell_36 (v := (nI (lenF ln (s i)) - nI (0 + 1))) rfl ?_
        have hb : xBt Fh7 b (bitsN ln s i + 0) (xcat (splB ln vl s i) (bitsN ln s i) (codeB (lenF ln (s i)) (lenF vl (s i)))) := xBt_ext hb (fun j hj => (if_pos hj).symm)
        refine x_istore hC d_Bits_spell_37 (Nat.le_of_ble_eq_true rfl) (L1 := [some (.ref b), some (.ref t), some (.ref c), some (.int (nI (i))), some (.int (nI (lenF vl (s i)))), some (.int (nI (lenF ln (s i)) - nI (0 + 1)))]) rfl ?_
        have loop_39 : ∀ (m9 : Nat) (Fh39 : xF) (k : Nat), (xBt Fh39 (b) ((bitsN ln s i + k)) ((xcat (splB ln vl s i) (bitsN ln s i) (codeB (lenF ln (s i)) (lenF vl (s i)))))) → (xTx Fh39 (t) (cap) (n9) (s)) → (xCd Fh39 (c) (w) (ln) (vl) (od) (js)) → (∀ a9 : Nat, (a9 < b ∨ b + 2 ≤ a9) → Fh39 a9 = F a9) → (k ≤ lenF ln (s i)) → (lenF ln (s i) - k < m9) → xX P Θ 39 [some (.ref b), some (.ref t), some (.ref c), some (.int (nI (i))), some (.int (nI (lenF vl (s i)))), some (.int (nI (lenF ln (s i)) - nI (k + 1)))] [] Fh39 (z) 0 0 := by
          intro m9
          induction m9 with
          | zero => intros; omega
          | succ m9 ih_39 =>
            intro Fh39 k hb ht hc hag hk hm_39
            refine x_iload hC d_Bits_spell_39 rfl ?_
            refine x_if_lt hC d_Bits_spell_41 (tgt := 61) (by decide) (fun c_41 => ?_) (fun c_41 => ?_)
            · skip
              have hk9 : lenF ln (s i) ≤ k := by have := (x_sublt (by omega) (by omega)).mp c_41; omega
              have ek : k = lenF ln (s i) := by omega
              rw [ek] at hb
              refine x_iinc hC d_Bits_spell_61 rfl (v := (nI (i + 1))) (x_incN 1) (Nat.le_of_ble_eq_true rfl) (L1 := [some (.ref b), some (.ref t), some (.ref c), some (.int (nI (i + 1))), some (.int (nI (lenF vl (s i)))), some (.int (nI (lenF ln (s i)) - nI (k + 1)))]) rfl ?_
              refine x_goto hC d_Bits_spell_64 (tgt := 7) (by decide) ?_
              refine x_forget (L1 := [some (.ref b), some (.ref t), some (.ref c), some (.int (nI (i + 1))), none, none]) ⟨Or.inr rfl, ⟨Or.inr rfl, ⟨Or.inr rfl, ⟨Or.inr rfl, ⟨Or.inl rfl, ⟨Or.inl rfl, trivial⟩⟩⟩⟩⟩⟩ ?_
              exact ih_7 Fh39 (i + 1) hb ht hc hag (by omega) (by omega)
            · skip
              have hk8 : ¬ lenF ln (s i) < k + 1 := fun e => c_41 ((x_sublt (by omega) (by omega)).mpr e)
              refine x_aload_n hC d_Bits_spell_44 rfl rfl ?_
              refine x_iload hC d_Bits_spell_45 rfl ?_
              refine x_iload hC d_Bits_spell_47 rfl ?_
              refine x_ishr hC d_Bits_spell_49 (v := (nI (lenF vl (s i) / 2 ^ (lenF ln (s i) - (k + 1))))) (by rw [pk_sub (by omega)]; exact x_shrN _ (by omega) (by omega) rfl) ?_
              refine x_iconst hC d_Bits_spell_50 (v := nI 1) (by decide) ?_
              refine x_iand hC d_Bits_spell_51 (v := (nI (lenF vl (s i) / 2 ^ (lenF ln (s i) - (k + 1)) % 2))) (x_and1 (Nat.lt_of_le_of_lt (Nat.div_le_self _ _) (by omega))) ?_
              refine x_callV hC kv_Bits_35 (c_Bits_add (hb := hb) (hlt := by omega) (hx := by omega)) hb.1 rfl rfl (by decide) rfl rfl rfl (Nat.le_of_ble_eq_true rfl) (by decide) d_Bits_spell_52 (fun r9 F9 z9 hp9 => ?_)
              obtain ⟨rfl, h9c, j0, hag9⟩ := hp9
              rw [h9c]
              clear h9c z9
              generalize F9 = F2 at *
              have ht : xTx F2 (t) (cap) (n9) (s) := xTx_fr ht (fun a9 q1 q2 => hag9 a9 (by omega))
              have hc : xCd F2 (c) (w) (ln) (vl) (od) (js) := xCd_fr hc (fun a9 q1 q2 => hag9 a9 (by omega))
              have hb : xBt F2 (b) ((bitsN ln s i + k) + 1) ((updN (xcat (splB ln vl s i) (bitsN ln s i) (codeB (lenF ln (s i)) (lenF vl (s i)))) (bitsN ln s i + k) (lenF vl (s i) / 2 ^ (lenF ln (s i) - (k + 1)) % 2))) := j0
              have hag : ∀ a9 : Nat, (a9 < b ∨ b + 2 ≤ a9) → F2 a9 = F a9 := fun a9 q0 => (hag9 a9 (by omega)).trans (hag a9 q0)
              have hg_52 := hag9
              clear hag9
              have hb : xBt F2 b (bitsN ln s i + (k + 1)) (xcat (splB ln vl s i) (bitsN ln s i) (codeB (lenF ln (s i)) (lenF vl (s i)))) := xBt_ext hb (fun j hj => (Nat.lt_or_ge j (bitsN ln s i + k)).elim (fun q => updN_ne (by omega)) (fun q => by rw [show j = bitsN ln s i + k by omega, updN_eq, xcat, if_neg (by omega), codeB, show bitsN ln s i + k - bitsN ln s i = k by omega, show lenF ln (s i) - 1 - k = lenF ln (s i) - (k + 1) by omega]))
              refine x_iinc hC d_Bits_spell_55 rfl (v := (nI (lenF ln (s i)) - nI ((k + 1) + 1))) (x_sub1 _ _) (Nat.le_of_ble_eq_true rfl) (L1 := [some (.ref b), some (.ref t), some (.ref c), some (.int (nI (i))), some (.int (nI (lenF vl (s i)))), some (.int (nI (lenF ln (s i)) - nI ((k + 1) + 1)))]) rfl ?_
              refine x_goto hC d_Bits_spell_58 (tgt := 39) (by decide) ?_
              exact ih_39 F2 (k + 1) hb ht hc hag (by omega) (by omega)
        exact loop_39 (lenF ln (s i) - 0 + 1) Fh7 (0) hb ht hc hag (by omega) (by omega)
  exact loop_7 (n9 - 0 + 1) F1 (0) hb ht hc hag (by omega) (by omega)

