section XM1
variable {P : xP} {Θ : xT} {cc : ByteArray} {own : String} {nL d mc ms pc : Nat} {L : List (Option Value)} {st : List Value} {F : xF} {z k n : Nat}
theorem x_stb (hC : xC P Θ cc own nL d mc ms) {t N j : Nat} {f : Nat → Value} {i : Int32} {x : Int32} (ht : ∀ U, P.2.2.2.2 U → va_T .byte t N f (xA0 P) U P.2.2.1) (hi : xix i N j) (hv : f j = .int x) (hd : decode cc pc = .ok (.baload, 1)) (kk : xX P Θ (pc + 1) L (.int x :: st) F z k n) : xX P Θ pc L (.int i :: .ref t :: st) F z k n := by
  intro H locs ls hW hl hx
  obtain ⟨U0, hal, hks⟩ := hC.2.2.2.2.2.1.2.2.2
  obtain ⟨cell, h1, h2, h3, h4, h5, h6, h7⟩ := va_T.moved hal (ht U0 hks)
  have e1 := xix_in hi
  have e2 := xix_cl hi
  exact W.bald (v := .int x) hC.1 hC.2.1 (by rw [x_old hW h7]; exact h1) h2 h3 (fun q => e1 (q.elim Or.inl (fun q => Or.inr (Nat.le_trans h4 q)))) (by rw [e2, h6 j hi.2.1, hv]) (g := F0 Θ.2.2.2.2.1 pc ls (.int i :: .ref t :: st)) rfl rfl hd (kk H locs ls hW hl hx)
theorem x_callVS (hC : xC P Θ cc own nL d mc ms) {index nP b mc1 ms1 : Nat} {Y : xY} {As rest : List Value} {post : Option Value → xF → Nat → Prop} (hk : xLV own index Y nP) (hM : xM P Y (.ref b :: As) F z mc1 ms1 post) {C : String} (hb : ∀ U, P.2.2.2.2 U → va_O C b (xA0 P) U P.2.2.1) (hcn : Y.1.cls = C) (hdp : Y.2.2.2.2 + 1 ≤ d) (hn : As.length = nP) (hst : st = As.reverse ++ .ref b :: rest) (hL : L.length = nL) (hrm : (rest.map fun v => v.category).sum ≤ 8) (hm : k + mc1 ≤ mc ∧ n + ms1 ≤ ms) (hd : decode cc pc = .ok (.invokevirtual index, 3)) (kk : ∀ (r : Option Value) (F1 : xF) (z1 : Nat), post r F1 z1 → xX P Θ (pc + 3) L (r.toList ++ rest) F1 z1 (k + mc1) (n + ms1)) : xX P Θ pc L st F z k n := by
  subst hst
  obtain ⟨hY, h1, h2, h3⟩ := hk
  intro H locs ls hW hl hx
  have ht := hC.2.2.2.2.1
  have hR := hC.2.2.2.2.2.2.1
  obtain ⟨U0, hal, hks⟩ := hC.2.2.2.2.2.1.2.2.2
  obtain ⟨cell, q1, q2, q3, q4⟩ := va_O.moved hal (hb U0 hks)
  refine x_after (va_runV (C := Y.1.cls) (As := As) (rest := rest) (n := nP) (bytes := Y.2.1) (maxL := Y.2.2.1) (ret := Y.2.2.2.1) ⟨hC.1, hC.2.1, hC.2.2.1, hC.2.2.2.1, ht⟩ hM ⟨⟨rfl, rfl, ?_, ?_, x_paid ht (x_code hY), List.mem_cons_self, ht _ hY.1, ht _ hY.2.1, ⟨hY.2.2.1.1, hY.2.2.1.2.1⟩, x_len hY, ht _ h1⟩, ht _ h2, ht _ h3⟩ ⟨x_blind, ⟨cell, by rw [x_old hW q4]; exact q1, q2, by rw [hcn]; exact q3⟩, fun U hU hWm => ⟨rfl, by rw [hU]; exact hW, xK_moved hWm hC.2.2.2.2.2.1⟩⟩ rfl hn (by rw [← hL]; exact hx.1) rfl (lv_room hrm) hd (by rw [hR]; exact hm)) hl hx (fun q h => h) kk
  · rw [hR]; exact hdp
  · rw [hR]
    have := hY.2.2.2
    show 8 + (Y.2.2.1 + 11) + 60 * Y.2.2.2.2 ≤ 60 * d
    omega
theorem x_astS (hC : xC P Θ cc own nL d mc ms) {a t N j v : Nat} {C : String} {f f1 : Nat → Value} {i : Int32} (ha : F a = some (.inr (t, N, f))) (ht : t < 8) (hty : xty t = .object C) (hv : ∀ U, P.2.2.2.2 U → va_O C v (xA0 P) U P.2.2.1) (hi : xix i N j) (hd : decode cc pc = .ok (.aastore, 1)) (hf : updV f j (.ref v) = f1) (kk : xX P Θ (pc + 1) L st (xup F a (.inr (t, N, f1))) z k n) : xX P Θ pc L (.ref v :: .int i :: .ref a :: st) F z k n := by
  subst hf
  intro H locs ls hW hl hx
  obtain ⟨hlow, hat⟩ := hW.2.2.2.2 a _ ha
  have h1 := xix_in hi
  have h2 := xix_cl hi
  have hra := (hC.2.2.2.2.2.1.2.1 t ht).2
  rw [hty] at hra
  obtain ⟨kA, comp, hkA, hkindA, hcomp, -⟩ := hra
  obtain ⟨U0, hal, hks⟩ := hC.2.2.2.2.2.1.2.2.2
  obtain ⟨cell, q1, q2, q3, q4⟩ := va_O.moved hal (hv U0 hks)
  obtain ⟨kE, hkE, -⟩ := Vm.findClass_spec hcomp
  obtain ⟨kC, hkC, -⟩ := Vm.findClass_spec q3
  refine W.aast hC.1 hC.2.1 hat (fun q h => by cases h) (fun h => by cases h) hkA hkindA rfl hkE ⟨fun q => h1 (Or.inl q), by rw [arrV_size, h2]; exact hi.2.1⟩ (by rw [x_old hW q4]; exact q1) (fun q h => by rw [h] at q2; cases q2) hkC (vb_asgS _ _ hcomp q3) rfl rfl hd fun H1 e1 e2 e3 => ?_
  refine kk H1 _ ls (xW_up hW ha e2 e3 ?_) (fun q hq => ?_) hx
  · show H1[a]? = _
    rw [e1, h2, arrV_store]
  · rcases List.mem_append.mp hq with hq | hq
    · exact hl q hq
    · rw [List.mem_singleton.mp hq]; exact hlow
end XM1
/-- null at 0, else a reference -/
def fvS (fo : Nat) : Value := if fo = 0 then .null else .ref (fo - 1)
/-- a string constant at t: its bytes at vb, n of them, g; the formatter of wrong indices at fo -/
def xStr (P : xP) (t vb fo n : Nat) (g : Nat → Nat) : Prop := (∀ U, P.2.2.2.2 U → va_O "java/lang/String" t (xA0 P) U P.2.2.1) ∧ (∀ U, P.2.2.2.2 U → va_OF "java/lang/String" "value" "[B" (.ref vb) t (xA0 P) U P.2.2.1) ∧ (∀ U, P.2.2.2.2 U → va_OF "java/lang/String" "coder" "B" (.int (nI 0)) t (xA0 P) U P.2.2.1) ∧ (∀ U, P.2.2.2.2 U → va_Z "java/lang/String" "COMPACT_STRINGS" "Z" (.int (nI 1)) (xA0 P) U P.2.2.1) ∧ (∀ U, P.2.2.2.2 U → va_T .byte vb n (fun j => .int (nI (g j))) (xA0 P) U P.2.2.1) ∧ (∀ U, P.2.2.2.2 U → va_Z "jdk/internal/util/Preconditions" "SIOOBE_FORMATTER" "Ljava/util/function/BiFunction;" (fvS fo) (xA0 P) U P.2.2.1) ∧ n < 100 ∧ ∀ j, j < n → g j < 128
theorem and_255 : ∀ a, a < 128 → nI a &&& nI 255 = nI a := by decide +kernel

theorem d_String_coder_0 : decode prog_33_method_152_code 0 = .ok (.getstatic 38, 3) := by decide +kernel
theorem d_String_coder_3 : decode prog_33_method_152_code 3 = .ok (.ifCond .eq 10, 3) := by decide +kernel
theorem d_String_coder_6 : decode prog_33_method_152_code 6 = .ok (.aload_n 0, 1) := by decide +kernel
theorem d_String_coder_7 : decode prog_33_method_152_code 7 = .ok (.getfield 15, 3) := by decide +kernel
theorem d_String_coder_10 : decode prog_33_method_152_code 10 = .ok (.goto 4, 3) := by decide +kernel
theorem d_String_coder_13 : decode prog_33_method_152_code 13 = .ok (.iconst 1, 1) := by decide +kernel
theorem d_String_coder_14 : decode prog_33_method_152_code 14 = .ok (.ireturn, 1) := by decide +kernel
set_option maxHeartbeats 4000000 in
set_option maxRecDepth 20000 in
theorem c_String_coder {P : xP} {F : xF} {z : Nat} {t : Nat} {vb : Nat} {fo : Nat} {n : Nat} {g : Nat → Nat}  (hS : xStr P t vb fo n g) : xM P xy_String_coder [.ref t] F (z) 0 0 (fun r9 F9 z9 => r9 = some (.int (nI 0)) ∧ F9 = F ∧ z9 = z) := by
  refine xM_i .byte (by decide +kernel) (Nat.le_of_ble_eq_true rfl) (L0 := [some (.ref t)]) rfl rfl fun Θ hC hret => ?_
  refine x_gets hC (v := .int (nI 1)) hS.2.2.2.1 (x_in (x_of (xtb_5 (List.mem_of_getElem? (i := 213) (by decide +kernel)))) (by decide +kernel)) d_String_coder_0 ?_
  refine x_ifN_eq hC d_String_coder_3 (tgt := 13) (by decide) (by omega) (fun c_3 => ?_) (fun c_3 => ?_)
  · skip
    exact absurd c_3 (by omega)
  · skip
    refine x_aload_n hC d_String_coder_6 rfl rfl ?_
    refine x_getS hC (v := .int (nI 0)) hS.2.2.1 (x_in (x_of (xtb_7 (List.mem_of_getElem? (i := 112) (by decide +kernel)))) (by decide +kernel)) d_String_coder_7 ?_
    refine x_goto hC d_String_coder_10 (tgt := 14) (by decide) ?_
    exact hret _ _ _ _ _ _ _ d_String_coder_14 (by decide) (by decide) rfl (⟨rfl, rfl, rfl⟩)

theorem d_String_isLatin1_0 : decode prog_33_method_154_code 0 = .ok (.getstatic 38, 3) := by decide +kernel
theorem d_String_isLatin1_3 : decode prog_33_method_154_code 3 = .ok (.ifCond .eq 14, 3) := by decide +kernel
theorem d_String_isLatin1_6 : decode prog_33_method_154_code 6 = .ok (.aload_n 0, 1) := by decide +kernel
theorem d_String_isLatin1_7 : decode prog_33_method_154_code 7 = .ok (.getfield 15, 3) := by decide +kernel
theorem d_String_isLatin1_10 : decode prog_33_method_154_code 10 = .ok (.ifCond .ne 7, 3) := by decide +kernel
theorem d_String_isLatin1_13 : decode prog_33_method_154_code 13 = .ok (.iconst 1, 1) := by decide +kernel
theorem d_String_isLatin1_14 : decode prog_33_method_154_code 14 = .ok (.goto 4, 3) := by decide +kernel
theorem d_String_isLatin1_17 : decode prog_33_method_154_code 17 = .ok (.iconst 0, 1) := by decide +kernel
theorem d_String_isLatin1_18 : decode prog_33_method_154_code 18 = .ok (.ireturn, 1) := by decide +kernel
set_option maxHeartbeats 4000000 in
set_option maxRecDepth 20000 in
theorem c_String_isLatin1 {P : xP} {F : xF} {z : Nat} {t : Nat} {vb : Nat} {fo : Nat} {n : Nat} {g : Nat → Nat}  (hS : xStr P t vb fo n g) : xM P xy_String_isLatin1 [.ref t] F (z) 0 0 (fun r9 F9 z9 => r9 = some (.int (nI 1)) ∧ F9 = F ∧ z9 = z) := by
  refine xM_i .boolean (by decide +kernel) (Nat.le_of_ble_eq_true rfl) (L0 := [some (.ref t)]) rfl rfl fun Θ hC hret => ?_
  refine x_gets hC (v := .int (nI 1)) hS.2.2.2.1 (x_in (x_of (xtb_5 (List.mem_of_getElem? (i := 213) (by decide +kernel)))) (by decide +kernel)) d_String_isLatin1_0 ?_
  refine x_ifN_eq hC d_String_isLatin1_3 (tgt := 17) (by decide) (by omega) (fun c_3 => ?_) (fun c_3 => ?_)
  · skip
    exact absurd c_3 (by omega)
  · skip
    refine x_aload_n hC d_String_isLatin1_6 rfl rfl ?_
    refine x_getS hC (v := .int (nI 0)) hS.2.2.1 (x_in (x_of (xtb_7 (List.mem_of_getElem? (i := 112) (by decide +kernel)))) (by decide +kernel)) d_String_isLatin1_7 ?_
    refine x_ifN_ne hC d_String_isLatin1_10 (tgt := 17) (by decide) (by omega) (fun c_10 => ?_) (fun c_10 => ?_)
    · skip
      exact absurd c_10 (by omega)
    · skip
      refine x_iconst hC d_String_isLatin1_13 (v := nI 1) (by decide) ?_
      refine x_goto hC d_String_isLatin1_14 (tgt := 18) (by decide) ?_
      exact hret _ _ _ _ _ _ _ d_String_isLatin1_18 (by decide) (by decide) rfl (⟨rfl, rfl, rfl⟩)

theorem d_String_length_0 : decode prog_33_method_54_code 0 = .ok (.aload_n 0, 1) := by decide +kernel
theorem d_String_length_1 : decode prog_33_method_54_code 1 = .ok (.getfield 9, 3) := by decide +kernel
theorem d_String_length_4 : decode prog_33_method_54_code 4 = .ok (.arraylength, 1) := by decide +kernel
theorem d_String_length_5 : decode prog_33_method_54_code 5 = .ok (.aload_n 0, 1) := by decide +kernel
theorem d_String_length_6 : decode prog_33_method_54_code 6 = .ok (.invokevirtual 335, 3) := by decide +kernel
theorem d_String_length_9 : decode prog_33_method_54_code 9 = .ok (.ishr, 1) := by decide +kernel
theorem d_String_length_10 : decode prog_33_method_54_code 10 = .ok (.ireturn, 1) := by decide +kernel
set_option maxHeartbeats 4000000 in
set_option maxRecDepth 20000 in
theorem c_String_length {P : xP} {F : xF} {z : Nat} {t : Nat} {vb : Nat} {fo : Nat} {n : Nat} {g : Nat → Nat}  (hS : xStr P t vb fo n g) : xM P xy_String_length [.ref t] F (z) 0 0 (fun r9 F9 z9 => r9 = some (.int (nI (n))) ∧ F9 = F ∧ z9 = z) := by
  refine xM_i .int (by decide +kernel) (Nat.le_of_ble_eq_true rfl) (L0 := [some (.ref t)]) rfl rfl fun Θ hC hret => ?_
  have hn9 := hS.2.2.2.2.2.2.1
  refine x_aload_n hC d_String_length_0 rfl rfl ?_
  refine x_getS hC (v := .ref vb) hS.2.1 (x_in (x_of (xtb_7 (List.mem_of_getElem? (i := 111) (by decide +kernel)))) (by decide +kernel)) d_String_length_1 ?_
  refine x_stlen hC hS.2.2.2.2.1 (v := (nI (n))) rfl d_String_length_4 ?_
  refine x_aload_n hC d_String_length_5 rfl rfl ?_
  refine x_callVS hC kv_String_335 (c_String_coder (hS := hS) (vb := vb) (fo := fo) (n := n) (g := g)) hS.1 rfl (by decide) rfl rfl rfl (Nat.le_of_ble_eq_true rfl) (by decide) d_String_length_6 (fun r9 F9 z9 hp9 => ?_)
  obtain ⟨rfl, h9b, h9c⟩ := hp9
  rw [h9b, h9c]
  clear h9b h9c F9 z9
  refine x_ishr hC d_String_length_9 (v := (nI (n))) (x_shrN 0 (by omega) (by omega) (by rw [Nat.pow_zero, Nat.div_one])) ?_
  exact hret _ _ _ _ _ _ _ d_String_length_10 (by decide) (by decide) rfl (⟨rfl, rfl, rfl⟩)

theorem d_Preconditions_checkIndex_0 : decode prog_46_method_11_code 0 = .ok (.iload_n 0, 1) := by decide +kernel
theorem d_Preconditions_checkIndex_1 : decode prog_46_method_11_code 1 = .ok (.ifCond .lt 8, 3) := by decide +kernel
theorem d_Preconditions_checkIndex_4 : decode prog_46_method_11_code 4 = .ok (.iload_n 0, 1) := by decide +kernel
theorem d_Preconditions_checkIndex_5 : decode prog_46_method_11_code 5 = .ok (.iload_n 1, 1) := by decide +kernel
theorem d_Preconditions_checkIndex_6 : decode prog_46_method_11_code 6 = .ok (.if_icmp .lt 10, 3) := by decide +kernel
theorem d_Preconditions_checkIndex_9 : decode prog_46_method_11_code 9 = .ok (.aload_n 2, 1) := by decide +kernel
theorem d_Preconditions_checkIndex_10 : decode prog_46_method_11_code 10 = .ok (.iload_n 0, 1) := by decide +kernel
theorem d_Preconditions_checkIndex_11 : decode prog_46_method_11_code 11 = .ok (.iload_n 1, 1) := by decide +kernel
theorem d_Preconditions_checkIndex_12 : decode prog_46_method_11_code 12 = .ok (.invokestatic 95, 3) := by decide +kernel
theorem d_Preconditions_checkIndex_15 : decode prog_46_method_11_code 15 = .ok (.athrow, 1) := by decide +kernel
theorem d_Preconditions_checkIndex_16 : decode prog_46_method_11_code 16 = .ok (.iload_n 0, 1) := by decide +kernel
theorem d_Preconditions_checkIndex_17 : decode prog_46_method_11_code 17 = .ok (.ireturn, 1) := by decide +kernel
set_option maxHeartbeats 4000000 in
set_option maxRecDepth 20000 in
theorem c_Preconditions_checkIndex {P : xP} {F : xF} {z : Nat} {i : Nat} {n : Nat} {fo : Nat}  (hi : i < n) (hn : n < 100) : xM P xy_Preconditions_checkIndex [.int (nI (i)), .int (nI (n)), .ref fo] F (z) 0 0 (fun r9 F9 z9 => r9 = some (.int (nI (i))) ∧ F9 = F ∧ z9 = z) := by
  refine xM_i .int (by decide +kernel) (Nat.le_of_ble_eq_true rfl) (L0 := [some (.int (nI (i))), some (.int (nI (n))), some (.ref fo)]) rfl rfl fun Θ hC hret => ?_
  refine x_iload_n hC d_Preconditions_checkIndex_0 rfl rfl ?_
  refine x_ifN_lt hC d_Preconditions_checkIndex_1 (tgt := 9) (by decide) (by omega) (fun c_1 => ?_) (fun c_1 => ?_)
  · skip
    exact c_1.elim
  · skip
    refine x_iload_n hC d_Preconditions_checkIndex_4 rfl rfl ?_
    refine x_iload_n hC d_Preconditions_checkIndex_5 rfl rfl ?_
    refine x_icmpN_lt hC d_Preconditions_checkIndex_6 (tgt := 16) (by decide) (by omega) (by omega) (fun c_6 => ?_) (fun c_6 => ?_)
    · skip
      refine x_iload_n hC d_Preconditions_checkIndex_16 rfl rfl ?_
      exact hret _ _ _ _ _ _ _ d_Preconditions_checkIndex_17 (by decide) (by decide) rfl (⟨rfl, rfl, rfl⟩)
    · skip
      exact absurd c_6 (by omega)

set_option maxHeartbeats 4000000 in
set_option maxRecDepth 20000 in
theorem c_Preconditions_checkIndexN {P : xP} {F : xF} {z : Nat} {i : Nat} {n : Nat}  (hi : i < n) (hn : n < 100) : xM P xy_Preconditions_checkIndex [.int (nI (i)), .int (nI (n)), .null] F (z) 0 0 (fun r9 F9 z9 => r9 = some (.int (nI (i))) ∧ F9 = F ∧ z9 = z) := by
  refine xM_i .int (by decide +kernel) (Nat.le_of_ble_eq_true rfl) (L0 := [some (.int (nI (i))), some (.int (nI (n))), some (.null)]) rfl rfl fun Θ hC hret => ?_
  refine x_iload_n hC d_Preconditions_checkIndex_0 rfl rfl ?_
  refine x_ifN_lt hC d_Preconditions_checkIndex_1 (tgt := 9) (by decide) (by omega) (fun c_1 => ?_) (fun c_1 => ?_)
  · skip
    exact c_1.elim
  · skip
    refine x_iload_n hC d_Preconditions_checkIndex_4 rfl rfl ?_
    refine x_iload_n hC d_Preconditions_checkIndex_5 rfl rfl ?_
    refine x_icmpN_lt hC d_Preconditions_checkIndex_6 (tgt := 16) (by decide) (by omega) (by omega) (fun c_6 => ?_) (fun c_6 => ?_)
    · skip
      refine x_iload_n hC d_Preconditions_checkIndex_16 rfl rfl ?_
      exact hret _ _ _ _ _ _ _ d_Preconditions_checkIndex_17 (by decide) (by decide) rfl (⟨rfl, rfl, rfl⟩)
    · skip
      exact absurd c_6 (by omega)

theorem d_String_checkIndex_0 : decode prog_33_method_155_code 0 = .ok (.iload_n 0, 1) := by decide +kernel
theorem d_String_checkIndex_1 : decode prog_33_method_155_code 1 = .ok (.iload_n 1, 1) := by decide +kernel
theorem d_String_checkIndex_2 : decode prog_33_method_155_code 2 = .ok (.getstatic 1053, 3) := by decide +kernel
theorem d_String_checkIndex_5 : decode prog_33_method_155_code 5 = .ok (.invokestatic 1059, 3) := by decide +kernel
theorem d_String_checkIndex_8 : decode prog_33_method_155_code 8 = .ok (.pop, 1) := by decide +kernel
theorem d_String_checkIndex_9 : decode prog_33_method_155_code 9 = .ok (.return_, 1) := by decide +kernel
set_option maxHeartbeats 4000000 in
set_option maxRecDepth 20000 in
theorem c_String_checkIndexR {P : xP} {F : xF} {z : Nat} {i : Nat} {n : Nat} {fo : Nat}  (hi : i < n) (hn : n < 100) (hF : ∀ U, P.2.2.2.2 U → va_Z "jdk/internal/util/Preconditions" "SIOOBE_FORMATTER" "Ljava/util/function/BiFunction;" (.ref fo) (xA0 P) U P.2.2.1) : xM P xy_String_checkIndex [.int (nI (i)), .int (nI (n))] F (z) 0 0 (fun r9 F9 z9 => r9 = none ∧ F9 = F ∧ z9 = z) := by
  refine xM_v (by decide +kernel) (Nat.le_of_ble_eq_true rfl) (L0 := [some (.int (nI (i))), some (.int (nI (n)))]) rfl rfl fun Θ hC hin hret => ?_
  refine x_iload_n hC d_String_checkIndex_0 rfl rfl ?_
  refine x_iload_n hC d_String_checkIndex_1 rfl rfl ?_
  refine x_gets hC (v := .ref fo) hF (x_in (x_of (xtb_5 (List.mem_of_getElem? (i := 233) (by decide +kernel)))) (by decide +kernel)) d_String_checkIndex_2 ?_
  refine x_callS hC ks_String_1059 (c_Preconditions_checkIndex (hi := by omega) (hn := by omega)) (by decide) rfl rfl rfl (Nat.le_of_ble_eq_true rfl) (by decide) d_String_checkIndex_5 (fun r9 F9 z9 hp9 => ?_)
  obtain ⟨rfl, h9b, h9c⟩ := hp9
  rw [h9b, h9c]
  clear h9b h9c F9 z9
  refine x_pop hC d_String_checkIndex_8 rfl ?_
  exact hret _ _ _ _ _ _ d_String_checkIndex_9 (by decide) (by decide) (⟨rfl, rfl, rfl⟩)

set_option maxHeartbeats 4000000 in
set_option maxRecDepth 20000 in
theorem c_String_checkIndexN {P : xP} {F : xF} {z : Nat} {i : Nat} {n : Nat}  (hi : i < n) (hn : n < 100) (hF : ∀ U, P.2.2.2.2 U → va_Z "jdk/internal/util/Preconditions" "SIOOBE_FORMATTER" "Ljava/util/function/BiFunction;" (.null) (xA0 P) U P.2.2.1) : xM P xy_String_checkIndex [.int (nI (i)), .int (nI (n))] F (z) 0 0 (fun r9 F9 z9 => r9 = none ∧ F9 = F ∧ z9 = z) := by
  refine xM_v (by decide +kernel) (Nat.le_of_ble_eq_true rfl) (L0 := [some (.int (nI (i))), some (.int (nI (n)))]) rfl rfl fun Θ hC hin hret => ?_
  refine x_iload_n hC d_String_checkIndex_0 rfl rfl ?_
  refine x_iload_n hC d_String_checkIndex_1 rfl rfl ?_
  refine x_gets hC (v := .null) hF (x_in (x_of (xtb_5 (List.mem_of_getElem? (i := 233) (by decide +kernel)))) (by decide +kernel)) d_String_checkIndex_2 ?_
  refine x_callS hC ks_String_1059 (c_Preconditions_checkIndexN (hi := by omega) (hn := by omega)) (by decide) rfl rfl rfl (Nat.le_of_ble_eq_true rfl) (by decide) d_String_checkIndex_5 (fun r9 F9 z9 hp9 => ?_)
  obtain ⟨rfl, h9b, h9c⟩ := hp9
  rw [h9b, h9c]
  clear h9b h9c F9 z9
  refine x_pop hC d_String_checkIndex_8 rfl ?_
  exact hret _ _ _ _ _ _ d_String_checkIndex_9 (by decide) (by decide) (⟨rfl, rfl, rfl⟩)

theorem c_String_checkIndex {P : xP} {F : xF} {z : Nat} {i : Nat} {n : Nat} {fo : Nat}  (hi : i < n) (hn : n < 100) (hF : ∀ U, P.2.2.2.2 U → va_Z "jdk/internal/util/Preconditions" "SIOOBE_FORMATTER" "Ljava/util/function/BiFunction;" (fvS fo) (xA0 P) U P.2.2.1) : xM P xy_String_checkIndex [.int (nI (i)), .int (nI (n))] F (z) 0 0 (fun r9 F9 z9 => r9 = none ∧ F9 = F ∧ z9 = z) := by
  by_cases h0 : fo = 0
  · exact c_String_checkIndexN hi hn (fun U hU => by have h9 := hF U hU; rw [h0] at h9; exact h9)
  · exact c_String_checkIndexR (fo := fo - 1) hi hn (fun U hU => by have h9 := hF U hU; rw [show fvS fo = .ref (fo - 1) from if_neg h0] at h9; exact h9)
theorem d_StringLatin1_charAt_0 : decode prog_35_method_2_code 0 = .ok (.iload_n 1, 1) := by decide +kernel
theorem d_StringLatin1_charAt_1 : decode prog_35_method_2_code 1 = .ok (.aload_n 0, 1) := by decide +kernel
theorem d_StringLatin1_charAt_2 : decode prog_35_method_2_code 2 = .ok (.arraylength, 1) := by decide +kernel
theorem d_StringLatin1_charAt_3 : decode prog_35_method_2_code 3 = .ok (.invokestatic 9, 3) := by decide +kernel
theorem d_StringLatin1_charAt_6 : decode prog_35_method_2_code 6 = .ok (.aload_n 0, 1) := by decide +kernel
theorem d_StringLatin1_charAt_7 : decode prog_35_method_2_code 7 = .ok (.iload_n 1, 1) := by decide +kernel
theorem d_StringLatin1_charAt_8 : decode prog_35_method_2_code 8 = .ok (.baload, 1) := by decide +kernel
theorem d_StringLatin1_charAt_9 : decode prog_35_method_2_code 9 = .ok (.sipush 255, 3) := by decide +kernel
theorem d_StringLatin1_charAt_12 : decode prog_35_method_2_code 12 = .ok (.iand, 1) := by decide +kernel
theorem d_StringLatin1_charAt_13 : decode prog_35_method_2_code 13 = .ok (.i2c, 1) := by decide +kernel
theorem d_StringLatin1_charAt_14 : decode prog_35_method_2_code 14 = .ok (.ireturn, 1) := by decide +kernel
set_option maxHeartbeats 4000000 in
set_option maxRecDepth 20000 in
theorem c_StringLatin1_charAt {P : xP} {F : xF} {z : Nat} {t : Nat} {vb : Nat} {fo : Nat} {n : Nat} {g : Nat → Nat} {i : Nat}  (hS : xStr P t vb fo n g) (hi : i < n) : xM P xy_StringLatin1_charAt [.ref vb, .int (nI (i))] F (z) 0 0 (fun r9 F9 z9 => r9 = some (.int (nI (g i))) ∧ F9 = F ∧ z9 = z) := by
  refine xM_i .char (by decide +kernel) (Nat.le_of_ble_eq_true rfl) (L0 := [some (.ref vb), some (.int (nI (i)))]) rfl rfl fun Θ hC hret => ?_
  have hn9 := hS.2.2.2.2.2.2.1
  have hg9 := hS.2.2.2.2.2.2.2 i hi
  refine x_iload_n hC d_StringLatin1_charAt_0 rfl rfl ?_
  refine x_aload_n hC d_StringLatin1_charAt_1 rfl rfl ?_
  refine x_stlen hC hS.2.2.2.2.1 (v := (nI (n))) rfl d_StringLatin1_charAt_2 ?_
  refine x_callS hC ks_StringLatin1_9 (c_String_checkIndex (hi := by omega) (hn := by omega) (hF := hS.2.2.2.2.2.1) (fo := fo)) (by decide) rfl rfl rfl (Nat.le_of_ble_eq_true rfl) (by decide) d_StringLatin1_charAt_3 (fun r9 F9 z9 hp9 => ?_)
  obtain ⟨rfl, h9b, h9c⟩ := hp9
  rw [h9b, h9c]
  clear h9b h9c F9 z9
  refine x_aload_n hC d_StringLatin1_charAt_6 rfl rfl ?_
  refine x_iload_n hC d_StringLatin1_charAt_7 rfl rfl ?_
  refine x_stb hC hS.2.2.2.2.1 (j := i) ⟨rfl, hi, by omega⟩ (x := (nI (g i))) rfl d_StringLatin1_charAt_8 ?_
  refine x_sipush hC d_StringLatin1_charAt_9 (v := nI 255) (by decide) ?_
  refine x_iand hC d_StringLatin1_charAt_12 (v := (nI (g i))) (and_255 _ hg9) ?_
  refine x_i2c hC d_StringLatin1_charAt_13 (v := (nI (g i))) (x_i2cN (by omega)) ?_
  exact hret _ _ _ _ _ _ _ d_StringLatin1_charAt_14 (by decide) (by decide) (x_char _ (by omega)) (⟨rfl, rfl, rfl⟩)

theorem d_String_charAt_0 : decode prog_33_method_56_code 0 = .ok (.aload_n 0, 1) := by decide +kernel
theorem d_String_charAt_1 : decode prog_33_method_56_code 1 = .ok (.invokevirtual 492, 3) := by decide +kernel
theorem d_String_charAt_4 : decode prog_33_method_56_code 4 = .ok (.ifCond .eq 12, 3) := by decide +kernel
theorem d_String_charAt_7 : decode prog_33_method_56_code 7 = .ok (.aload_n 0, 1) := by decide +kernel
theorem d_String_charAt_8 : decode prog_33_method_56_code 8 = .ok (.getfield 9, 3) := by decide +kernel
theorem d_String_charAt_11 : decode prog_33_method_56_code 11 = .ok (.iload_n 1, 1) := by decide +kernel
theorem d_String_charAt_12 : decode prog_33_method_56_code 12 = .ok (.invokestatic 495, 3) := by decide +kernel
theorem d_String_charAt_15 : decode prog_33_method_56_code 15 = .ok (.ireturn, 1) := by decide +kernel
theorem d_String_charAt_16 : decode prog_33_method_56_code 16 = .ok (.aload_n 0, 1) := by decide +kernel
theorem d_String_charAt_17 : decode prog_33_method_56_code 17 = .ok (.getfield 9, 3) := by decide +kernel
theorem d_String_charAt_20 : decode prog_33_method_56_code 20 = .ok (.iload_n 1, 1) := by decide +kernel
theorem d_String_charAt_21 : decode prog_33_method_56_code 21 = .ok (.invokestatic 498, 3) := by decide +kernel
theorem d_String_charAt_24 : decode prog_33_method_56_code 24 = .ok (.ireturn, 1) := by decide +kernel
set_option maxHeartbeats 4000000 in
set_option maxRecDepth 20000 in
theorem c_String_charAt {P : xP} {F : xF} {z : Nat} {t : Nat} {vb : Nat} {fo : Nat} {n : Nat} {g : Nat → Nat} {i : Nat}  (hS : xStr P t vb fo n g) (hi : i < n) : xM P xy_String_charAt [.ref t, .int (nI (i))] F (z) 0 0 (fun r9 F9 z9 => r9 = some (.int (nI (g i))) ∧ F9 = F ∧ z9 = z) := by
  refine xM_i .char (by decide +kernel) (Nat.le_of_ble_eq_true rfl) (L0 := [some (.ref t), some (.int (nI (i)))]) rfl rfl fun Θ hC hret => ?_
  have hg9 := hS.2.2.2.2.2.2.2 i hi
  refine x_aload_n hC d_String_charAt_0 rfl rfl ?_
  refine x_callVS hC kv_String_492 (c_String_isLatin1 (hS := hS) (vb := vb) (fo := fo) (n := n) (g := g)) hS.1 rfl (by decide) rfl rfl rfl (Nat.le_of_ble_eq_true rfl) (by decide) d_String_charAt_1 (fun r9 F9 z9 hp9 => ?_)
  obtain ⟨rfl, h9b, h9c⟩ := hp9
  rw [h9b, h9c]
  clear h9b h9c F9 z9
  refine x_ifN_eq hC d_String_charAt_4 (tgt := 16) (by decide) (by omega) (fun c_4 => ?_) (fun c_4 => ?_)
  · skip
    exact absurd c_4 (by omega)
  · skip
    refine x_aload_n hC d_String_charAt_7 rfl rfl ?_
    refine x_getS hC (v := .ref vb) hS.2.1 (x_in (x_of (xtb_7 (List.mem_of_getElem? (i := 111) (by decide +kernel)))) (by decide +kernel)) d_String_charAt_8 ?_
    refine x_iload_n hC d_String_charAt_11 rfl rfl ?_
    refine x_callS hC ks_String_495 (c_StringLatin1_charAt (hS := hS) (hi := hi) (t := t) (fo := fo) (n := n) (g := g)) (by decide) rfl rfl rfl (Nat.le_of_ble_eq_true rfl) (by decide) d_String_charAt_12 (fun r9 F9 z9 hp9 => ?_)
    obtain ⟨rfl, h9b, h9c⟩ := hp9
    rw [h9b, h9c]
    clear h9b h9c F9 z9
    exact hret _ _ _ _ _ _ _ d_String_charAt_15 (by decide) (by decide) (x_char _ (by omega)) (⟨rfl, rfl, rfl⟩)

