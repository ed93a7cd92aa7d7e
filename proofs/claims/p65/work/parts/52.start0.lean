/-! the start: what the Statement gives, by place -/
abbrev nL : List Cond := flatC (Jvm.Cond.and given_1 narrow_1)
theorem nr_at {w : Cond} {k b : Nat} {s : State} (hgv : (Jvm.Cond.and given_1 narrow_1).before #[Value.ref b] s = true) (h : nL[k]? = some w) : w.before #[Value.ref b] s = true := flat_of_before _ hgv _ (List.mem_of_getElem? h)
def cIx : List Nat := [23, 38, 0, 41, 45, 50, 56, 63, 71, 80]
theorem nr_c0 : ∀ j, j < 10 → ¬ j = 2 → nL[cIx.getD j 0 + 2]? = some (.exactly (.static "MessageCoder$Command" (nmC j) "LMessageCoder$Command;") "MessageCoder$Command") := by decide +kernel
theorem nr_c1 : ∀ j, j < 10 → ¬ j = 2 → nL[cIx.getD j 0 + 3]? = some (.eq (.field (.static "MessageCoder$Command" (nmC j) "LMessageCoder$Command;") "java/lang/Enum" "ordinal" "I") (.int (nI j))) := by decide +kernel
theorem nr_w0 : nL[28]? = some (.arrayOf (.static "MessageCoder$1" "$SwitchMap$MessageCoder$Command" "[I") .int) := by decide +kernel
theorem nr_w1 : nL[29]? = some (.eq (.length (.static "MessageCoder$1" "$SwitchMap$MessageCoder$Command" "[I")) (.int (Int32.ofNat 10))) := by decide +kernel
theorem nr_w2 : ∀ j, j < 10 → nL[30 + j]? = some (.eq (.elem (.static "MessageCoder$1" "$SwitchMap$MessageCoder$Command" "[I") (.int (Int32.ofNat j))) (.int (nI (j + 1)))) := by decide +kernel
theorem nr_r0 : nL[7]? = some (.arrayOf (.static "MessageCoder" "REMAINDERS" "[I") .int) := by decide +kernel
theorem nr_r1 : nL[8]? = some (.eq (.length (.static "MessageCoder" "REMAINDERS" "[I")) (.int (Int32.ofNat 16))) := by decide +kernel
theorem nr_r2 : ∀ j, j < 16 → nL[9 + j]? = some (.eq (.elem (.static "MessageCoder" "REMAINDERS" "[I") (.int (Int32.ofNat j))) (.int (nI (remT j)))) := by decide +kernel
theorem nr_g0 : nL[106]? = some (.arrayOf (.static "java/lang/Integer" "DigitOnes" "[B") .byte) := by decide +kernel
theorem nr_g1 : nL[107]? = some (.eq (.length (.static "java/lang/Integer" "DigitOnes" "[B")) (.int (Int32.ofNat 100))) := by decide +kernel
theorem nr_g2 : ∀ j, j < 100 → nL[108 + j]? = some (.eq (.elem (.static "java/lang/Integer" "DigitOnes" "[B") (.int (Int32.ofNat j))) (.int (nI (48 + j % 10)))) := by decide +kernel
theorem nr_h0 : nL[209]? = some (.arrayOf (.static "java/lang/Integer" "DigitTens" "[B") .byte) := by decide +kernel
theorem nr_h1 : nL[210]? = some (.eq (.length (.static "java/lang/Integer" "DigitTens" "[B")) (.int (Int32.ofNat 100))) := by decide +kernel
theorem nr_h2 : ∀ j, j < 100 → nL[211 + j]? = some (.eq (.elem (.static "java/lang/Integer" "DigitTens" "[B") (.int (Int32.ofNat j))) (.int (nI (48 + j / 10)))) := by decide +kernel
theorem nr_cs : nL[92]? = some (.eq (.static "java/lang/String" "COMPACT_STRINGS" "Z") (.int (nI 1))) := by decide +kernel
theorem nr_io : nL[93]? = some (.isRef (.static "jdk/internal/util/Preconditions" "SIOOBE_FORMATTER" "Ljava/util/function/BiFunction;")) := by decide +kernel
theorem nr_t0 : nL[4]? = some (.isRef (.static Bundle.tN "UNASSIGNED_STACK" Bundle.steD)) := by decide +kernel
theorem nr_t1 : nL[5]? = some (.isRef (.static Bundle.tN "SUPPRESSED_SENTINEL" Bundle.listD)) := by decide +kernel
theorem nr_n0 : nL[359]? = some (.not (.castable "java/lang/IllegalStateException" "java/lang/IllegalArgumentException")) := by decide +kernel
theorem nr_n1 : nL[322]? = some (.not (.castable "java/lang/IllegalArgumentException" "java/util/NoSuchElementException")) := by decide +kernel
theorem nr_n2 : nL[325]? = some (.not (.castable "java/lang/IndexOutOfBoundsException" "java/util/NoSuchElementException")) := by decide +kernel
def qls : List (List Nat) := [[], [61], [33], [58]]
def qix : List Nat := [141, 163, 228, 233]
def qad : List Nat := [924, 943, 964, 986]
theorem nr_s0 : ∀ j, j < 4 → nL[qad.getD j 0 + 2]? = some (.exactly (.string "MessageCoderLaw" (qix.getD j 0)) "java/lang/String") := by decide +kernel
theorem nr_s1 : ∀ j, j < 4 → nL[qad.getD j 0 + 3]? = some (.eq (.field (.string "MessageCoderLaw" (qix.getD j 0)) "java/lang/String" "coder" "B") (.int (nI 0))) := by decide +kernel
theorem nr_s2 : ∀ j, j < 4 → nL[qad.getD j 0 + 4]? = some (.arrayOf (.field (.string "MessageCoderLaw" (qix.getD j 0)) "java/lang/String" "value" "[B") .byte) := by decide +kernel
theorem nr_s3 : ∀ j, j < 4 → nL[qad.getD j 0 + 5]? = some (.eq (.length (.field (.string "MessageCoderLaw" (qix.getD j 0)) "java/lang/String" "value" "[B")) (.int (Int32.ofNat (qls.getD j []).length))) := by decide +kernel
theorem nr_s4 : ∀ j, j < 4 → ∀ k, k < (qls.getD j []).length → nL[qad.getD j 0 + 6 + k]? = some (.eq (.elem (.field (.string "MessageCoderLaw" (qix.getD j 0)) "java/lang/String" "value" "[B") (.int (Int32.ofNat k))) (.int (nI ((qls.getD j []).getD k 0)))) := by decide +kernel
theorem nr_s5 : ∀ j, j < 4 → (qls.getD j []).length < 100 ∧ ∀ k, k < (qls.getD j []).length → (qls.getD j []).getD k 0 < 128 := by decide +kernel
theorem ls_C0 : Cond.laysStatic "MessageCoder$Command" "WEIGHT" "LMessageCoder$Command;" ∈ lw_tbl := x_of (xtb_4 (List.mem_of_getElem? (i := 189) (by decide +kernel)))
theorem ls_C1 : Cond.laysStatic "MessageCoder$Command" "DRAFT" "LMessageCoder$Command;" ∈ lw_tbl := x_of (xtb_5 (List.mem_of_getElem? (i := 114) (by decide +kernel)))
theorem ls_C3 : Cond.laysStatic "MessageCoder$Command" "POST" "LMessageCoder$Command;" ∈ lw_tbl := x_of (xtb_5 (List.mem_of_getElem? (i := 139) (by decide +kernel)))
theorem ls_C4 : Cond.laysStatic "MessageCoder$Command" "DROP" "LMessageCoder$Command;" ∈ lw_tbl := x_of (xtb_5 (List.mem_of_getElem? (i := 153) (by decide +kernel)))
theorem ls_C5 : Cond.laysStatic "MessageCoder$Command" "HURRY" "LMessageCoder$Command;" ∈ lw_tbl := x_of (xtb_5 (List.mem_of_getElem? (i := 162) (by decide +kernel)))
theorem ls_C6 : Cond.laysStatic "MessageCoder$Command" "LEARN" "LMessageCoder$Command;" ∈ lw_tbl := x_of (xtb_5 (List.mem_of_getElem? (i := 171) (by decide +kernel)))
theorem ls_C7 : Cond.laysStatic "MessageCoder$Command" "SEND" "LMessageCoder$Command;" ∈ lw_tbl := x_of (xtb_5 (List.mem_of_getElem? (i := 180) (by decide +kernel)))
theorem ls_C8 : Cond.laysStatic "MessageCoder$Command" "FLIP" "LMessageCoder$Command;" ∈ lw_tbl := x_of (xtb_5 (List.mem_of_getElem? (i := 190) (by decide +kernel)))
theorem ls_C9 : Cond.laysStatic "MessageCoder$Command" "RECEIVE" "LMessageCoder$Command;" ∈ lw_tbl := x_of (xtb_5 (List.mem_of_getElem? (i := 200) (by decide +kernel)))
theorem ls_w : Cond.laysStatic "MessageCoder$1" "$SwitchMap$MessageCoder$Command" "[I" ∈ lw_tbl := x_of (xtb_4 (List.mem_of_getElem? (i := 236) (by decide +kernel)))
theorem ls_rm : Cond.laysStatic "MessageCoder" "REMAINDERS" "[I" ∈ lw_tbl := x_of (xtb_3 (List.mem_of_getElem? (i := 176) (by decide +kernel)))
theorem ls_cs : Cond.laysStatic "java/lang/String" "COMPACT_STRINGS" "Z" ∈ lw_tbl := x_of (xtb_5 (List.mem_of_getElem? (i := 214) (by decide +kernel)))
theorem ls_io : Cond.laysStatic "jdk/internal/util/Preconditions" "SIOOBE_FORMATTER" "Ljava/util/function/BiFunction;" ∈ lw_tbl := x_of (xtb_5 (List.mem_of_getElem? (i := 234) (by decide +kernel)))
theorem ls_t0 : Cond.laysStatic Bundle.tN "UNASSIGNED_STACK" Bundle.steD ∈ lw_tbl := x_of (xtb_2 (List.mem_of_getElem? (i := 149) (by decide +kernel)))
theorem ls_t1 : Cond.laysStatic Bundle.tN "SUPPRESSED_SENTINEL" Bundle.listD ∈ lw_tbl := x_of (xtb_2 (List.mem_of_getElem? (i := 151) (by decide +kernel)))
theorem ls_g : Cond.laysStatic "java/lang/Integer" "DigitOnes" "[B" ∈ lw_tbl := x_of (xtb_7 (List.mem_of_getElem? (i := 47) (by decide +kernel)))
theorem ls_h : Cond.laysStatic "java/lang/Integer" "DigitTens" "[B" ∈ lw_tbl := x_of (xtb_7 (List.mem_of_getElem? (i := 49) (by decide +kernel)))
theorem li_MessageCoder : Cond.initialized "MessageCoder" ∈ lw_tbl := x_of (xtb_1 (List.mem_of_getElem? (i := 1) (by decide +kernel)))
theorem li_MessageCoder_1 : Cond.initialized "MessageCoder$1" ∈ lw_tbl := x_of (xtb_1 (List.mem_of_getElem? (i := 14) (by decide +kernel)))
theorem li_MessageCoder_Command : Cond.initialized "MessageCoder$Command" ∈ lw_tbl := x_of (xtb_1 (List.mem_of_getElem? (i := 13) (by decide +kernel)))
theorem li_java_lang_Integer : Cond.initialized "java/lang/Integer" ∈ lw_tbl := x_of (xtb_1 (List.mem_of_getElem? (i := 33) (by decide +kernel)))
theorem li_java_lang_String : Cond.initialized "java/lang/String" ∈ lw_tbl := x_of (xtb_1 (List.mem_of_getElem? (i := 23) (by decide +kernel)))
theorem li_java_lang_Throwable : Cond.initialized "java/lang/Throwable" ∈ lw_tbl := x_of (xtb_1 (List.mem_of_getElem? (i := 15) (by decide +kernel)))
theorem li_jdk_internal_util_Preconditions : Cond.initialized "jdk/internal/util/Preconditions" ∈ lw_tbl := x_of (xtb_1 (List.mem_of_getElem? (i := 30) (by decide +kernel)))
theorem ls_C : ∀ j, j < 10 → ¬ j = 2 → Cond.laysStatic "MessageCoder$Command" (nmC j) "LMessageCoder$Command;" ∈ lw_tbl := by
  intro j hj h2
  rcases (show j = 0 ∨ j = 1 ∨ j = 3 ∨ j = 4 ∨ j = 5 ∨ j = 6 ∨ j = 7 ∨ j = 8 ∨ j = 9 by omega) with rfl | rfl | rfl | rfl | rfl | rfl | rfl | rfl | rfl
  · exact ls_C0
  · exact ls_C1
  · exact ls_C3
  · exact ls_C4
  · exact ls_C5
  · exact ls_C6
  · exact ls_C7
  · exact ls_C8
  · exact ls_C9
theorem lr_141 : Cond.stringRef "MessageCoderLaw" 141 "" ∈ lw_tbl := x_of (xtb_7 (List.mem_of_getElem? (i := 120) (by decide +kernel)))
theorem lr_163 : Cond.stringRef "MessageCoderLaw" 163 "=" ∈ lw_tbl := x_of (xtb_7 (List.mem_of_getElem? (i := 121) (by decide +kernel)))
theorem lr_228 : Cond.stringRef "MessageCoderLaw" 228 "!" ∈ lw_tbl := x_of (xtb_7 (List.mem_of_getElem? (i := 122) (by decide +kernel)))
theorem lr_233 : Cond.stringRef "MessageCoderLaw" 233 ":" ∈ lw_tbl := x_of (xtb_7 (List.mem_of_getElem? (i := 123) (by decide +kernel)))
theorem st_sels {s : State} {args : Array Value} (hts : ∀ w ∈ lw_tbl, w.before args s = true) : ∀ w ∈ xt_sels ++ lw_tbl, w.before args s = true := by
  intro w hw
  rcases List.mem_append.mp hw with hw | hw
  · obtain ⟨y, hy, rfl⟩ := List.mem_map.mp hw
    have h1 := hts (.instantiable "java/lang/StringBuilder" 4) (x_of (xtb_6 (List.mem_of_getElem? (i := 134) (by decide +kernel))))
    have h2 := hts (.selects "java/lang/StringBuilder" ⟨"java/lang/AbstractStringBuilder", "isLatin1", "()Z"⟩ ⟨"java/lang/AbstractStringBuilder", "isLatin1", "()Z"⟩) (x_of (xtb_6 (List.mem_of_getElem? (i := 208) (by decide +kernel))))
    simp only [xt_prv, List.mem_cons, List.not_mem_nil, or_false] at hy
    rcases hy with rfl | rfl | rfl | rfl | rfl | rfl
    · exact xt_selP (y := ⟨"java/lang/AbstractStringBuilder", "appendNull", "()Ljava/lang/AbstractStringBuilder;"⟩) ⟨by decide, by decide⟩ h1 (hts _ (x_of (xtb_6 (List.mem_of_getElem? (i := 171) (by decide +kernel))))) (hts _ (x_of (xtb_6 (List.mem_of_getElem? (i := 172) (by decide +kernel))))) h2 rfl
    · exact xt_selP (y := ⟨"java/lang/AbstractStringBuilder", "ensureCapacityInternal", "(I)V"⟩) ⟨by decide, by decide⟩ h1 (hts _ (x_of (xtb_6 (List.mem_of_getElem? (i := 175) (by decide +kernel))))) (hts _ (x_of (xtb_6 (List.mem_of_getElem? (i := 176) (by decide +kernel))))) h2 rfl
    · exact xt_selP (y := ⟨"java/lang/AbstractStringBuilder", "newCapacity", "(I)I"⟩) ⟨by decide, by decide⟩ h1 (hts _ (x_of (xtb_6 (List.mem_of_getElem? (i := 179) (by decide +kernel))))) (hts _ (x_of (xtb_6 (List.mem_of_getElem? (i := 180) (by decide +kernel))))) h2 rfl
    · exact xt_selP (y := ⟨"java/lang/AbstractStringBuilder", "putStringAt", "(ILjava/lang/String;)V"⟩) ⟨by decide, by decide⟩ h1 (hts _ (x_of (xtb_6 (List.mem_of_getElem? (i := 227) (by decide +kernel))))) (hts _ (x_of (xtb_6 (List.mem_of_getElem? (i := 228) (by decide +kernel))))) h2 rfl
    · exact xt_selP (y := ⟨"java/lang/AbstractStringBuilder", "inflateIfNeededFor", "(Ljava/lang/String;)V"⟩) ⟨by decide, by decide⟩ h1 (hts _ (x_of (xtb_6 (List.mem_of_getElem? (i := 231) (by decide +kernel))))) (hts _ (x_of (xtb_6 (List.mem_of_getElem? (i := 232) (by decide +kernel))))) h2 rfl
    · exact xt_selP (y := ⟨"java/lang/AbstractStringBuilder", "inflate", "()V"⟩) ⟨by decide, by decide⟩ h1 (hts _ (x_of (xtb_6 (List.mem_of_getElem? (i := 236) (by decide +kernel))))) (hts _ (x_of (xtb_6 (List.mem_of_getElem? (i := 237) (by decide +kernel))))) h2 rfl
  · exact hts w hw
