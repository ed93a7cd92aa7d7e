/-! Enum.ordinal; a static call that may throw; ends of throwing methods with floats -/
abbrev xy_Enum_ordinal : xY := (⟨"java/lang/Enum", "ordinal", "()I"⟩, prog_23_method_2_code, 1, some .int, 1)
theorem kY_Enum_ordinal : xLY xy_Enum_ordinal 0 := ⟨x_in (x_of (xtb_5 (List.mem_of_getElem? (i := 2) (by decide +kernel)))) (by decide +kernel), x_in (x_of (xtb_1 (List.mem_of_getElem? (i := 12) (by decide +kernel)))) (by decide +kernel), ⟨by decide, by decide, by decide +kernel⟩, by decide⟩
theorem d_Enum_ordinal_0 : decode prog_23_method_2_code 0 = .ok (.aload_n 0, 1) := by decide +kernel
theorem d_Enum_ordinal_1 : decode prog_23_method_2_code 1 = .ok (.getfield 7, 3) := by decide +kernel
theorem d_Enum_ordinal_4 : decode prog_23_method_2_code 4 = .ok (.ireturn, 1) := by decide +kernel
theorem c_Enum_ordinal {P : xP} {F : xF} {z e j : Nat} (hz : ∀ U, P.2.2.2.2 U → va_OF "java/lang/Enum" "ordinal" "I" (.int (nI j)) e (xA0 P) U P.2.2.1) : xM P xy_Enum_ordinal [.ref e] F z 0 0 (fun r9 F9 z9 => r9 = some (.int (nI j)) ∧ F9 = F ∧ z9 = z) := by
  refine xM_i .int (by decide +kernel) (Nat.le_of_ble_eq_true rfl) (L0 := [some (.ref e)]) rfl rfl fun Θ hC hret => ?_
  refine x_aload_n hC d_Enum_ordinal_0 rfl rfl ?_
  refine x_getS hC (v := .int (nI j)) hz (x_in (x_of (xtb_7 (List.mem_of_getElem? (i := 156) (by decide +kernel)))) (by decide +kernel)) d_Enum_ordinal_1 ?_
  exact hret _ _ _ _ _ _ _ d_Enum_ordinal_4 (by decide) (by decide) rfl ⟨rfl, rfl, rfl⟩
section XM3
variable {P : xP} {Θ : xT} {cc : ByteArray} {own : String} {nL d mc ms pc : Nat} {L : List (Option Value)} {st : List Value} {F : xF} {z k n : Nat}
theorem x_ordinal (hC : xC P Θ cc "MessageCoder" nL d mc ms) {e j : Nat} {rest : List Value} (hO : ∀ U, P.2.2.2.2 U → va_O "MessageCoder$Command" e (xA0 P) U P.2.2.1) (hz : ∀ U, P.2.2.2.2 U → va_OF "java/lang/Enum" "ordinal" "I" (.int (nI j)) e (xA0 P) U P.2.2.1) (hdp : 2 ≤ d) (hL : L.length = nL) (hrm : (rest.map fun v => v.category).sum ≤ 8) (hm : k ≤ mc ∧ n ≤ ms) (hd : decode cc pc = .ok (.invokevirtual 418, 3)) (kk : xX P Θ (pc + 3) L (.int (nI j) :: rest) F z k n) : xX P Θ pc L (.ref e :: rest) F z k n := by
  intro H locs ls hW hl hx
  have hY := kY_Enum_ordinal
  have ht := hC.2.2.2.2.1
  have hR := hC.2.2.2.2.2.2.1
  obtain ⟨U0, hal, hks⟩ := hC.2.2.2.2.2.1.2.2.2
  obtain ⟨cell, q1, q2, q3, q4⟩ := va_O.moved hal (hO U0 hks)
  have hi : Cond.instanceMethod xy_Enum_ordinal.1 ∈ x_tbl := x_in (x_of (xtb_5 (List.mem_of_getElem? (i := 1) (by decide +kernel)))) (by decide +kernel)
  refine x_after (va_runU (C := "MessageCoder$Command") (owner := "java/lang/Enum") (x := ⟨"MessageCoder$Command", "ordinal", "()I"⟩) (y := xy_Enum_ordinal.1) (As := []) (rest := rest) (n := 0) (index := 418) (bytes := xy_Enum_ordinal.2.1) (maxL := 1) (ret := some .int) ⟨hC.1, hC.2.1, hC.2.2.1, hC.2.2.2.1, ht⟩ (c_Enum_ordinal hz) ⟨⟨rfl, rfl, ?_, ?_, x_paid ht (x_code hY), List.mem_cons_self⟩, ht _ hY.1, ht _ hY.2.1, ⟨by decide, by decide⟩, x_len hY, ht _ (x_in (x_of (xtb_4 (List.mem_of_getElem? (i := 237) (by decide +kernel)))) (by decide +kernel)), ht _ (x_in (x_of (xtb_4 (List.mem_of_getElem? (i := 238) (by decide +kernel)))) (by decide +kernel)), va_Decl.of (ht _ hi) (ht _ hY.1), ht _ (x_in (x_of (xtb_5 (List.mem_of_getElem? (i := 0) (by decide +kernel)))) (by decide +kernel)), ht _ hi⟩ ⟨x_blind, ⟨cell, by rw [x_old hW q4]; exact q1, q2, q3⟩, fun U hU hWm => ⟨rfl, by rw [hU]; exact hW, xK_moved hWm hC.2.2.2.2.2.1⟩⟩ rfl rfl (by rw [← hL]; exact hx.1) rfl (lv_room hrm) hd (by rw [hR]; exact hm)) hl hx (fun q h => h) (fun r F1 z1 hp => ?_)
  · rw [hR]; exact hdp
  · rw [hR]; show 8 + (1 + 11) + 60 * 1 ≤ 60 * d; omega
  · obtain ⟨rfl, rfl, rfl⟩ := hp
    exact kk
theorem x_callXS (hC : xC P Θ cc own nL d mc ms) {postx postx1 : String → xF → Nat → Prop} (hRx : xRx P Θ mc ms postx) {index nP mc1 ms1 : Nat} {Y : xY} {As rest : List Value} {post : Option Value → xF → Nat → Prop} (hY : xLY Y nP) (h1 : Cond.methodLink own index Y.1 ∈ x_tbl) (h2 : Cond.static Y.1 ∈ x_tbl) (hM : xMx P Y As F z mc1 ms1 post postx1) (kx : ∀ E F1 z1, postx1 E F1 z1 → postx E F1 z1) (hdp : Y.2.2.2.2 + 1 ≤ d) (hn : As.length = nP) (hst : st = As.reverse ++ rest) (hL : L.length = nL) (hrm : (rest.map fun v => v.category).sum ≤ 8) (hm : k + mc1 ≤ mc ∧ n + ms1 ≤ ms) (hd : decode cc pc = .ok (.invokestatic index, 3)) (kk : ∀ (r : Option Value) (F1 : xF) (z1 : Nat), post r F1 z1 → xX P Θ (pc + 3) L (r.toList ++ rest) F1 z1 (k + mc1) (n + ms1)) : xX P Θ pc L st F z k n := by
  subst hst
  intro H locs ls hW hl hx
  have ht := hC.2.2.2.2.1
  have hR := hC.2.2.2.2.2.2.1
  have hf1 : Y.2.2.2.2 + 1 ≤ Θ.2.2.1.frames := by rw [hR]; exact hdp
  have hf2 : 8 + (Y.2.2.1 + 11) + 60 * Y.2.2.2.2 ≤ Θ.2.2.1.locals := by
    rw [hR]
    have := hY.2.2.2
    show 8 + (Y.2.2.1 + 11) + 60 * Y.2.2.2.2 ≤ 60 * d
    omega
  exact x_afterX hC.2.2.2.2.2.2.2 hRx hm (vx_runS (As := As) (rest := rest) (n := nP) (bytes := Y.2.1) (maxL := Y.2.2.1) (ret := Y.2.2.2.1) ⟨hC.1, hC.2.1, hC.2.2.1, hC.2.2.2.1, ht⟩ hM ⟨⟨rfl, rfl, hf1, hf2, x_paid ht (x_code hY), List.mem_cons_self, ht _ hY.1, ht _ hY.2.1, ⟨hY.2.2.1.1, hY.2.2.1.2.1⟩, x_len hY, ht _ h1⟩, ht _ h2⟩ ⟨x_blind, fun U hU hWm => ⟨rfl, by rw [hU]; exact hW, xK_moved hWm hC.2.2.2.2.2.1⟩⟩ rfl hn (by rw [← hL]; exact hx.1) rfl (lv_room hrm) hd (by rw [hR]; exact hm)) hl hx (fun q h => h) kx kk
end XM3

