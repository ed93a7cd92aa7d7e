/-! the start: what the Statement gives, by place -/
abbrev nL : List Cond := flatC (Jvm.Cond.and given_1 narrow_1)
theorem nr_at {w : Cond} {k b : Nat} {s : State} (hgv : (Jvm.Cond.and given_1 narrow_1).before #[Value.ref b] s = true) (h : nL[k]? = some w) : w.before #[Value.ref b] s = true := flat_of_before _ hgv _ (List.mem_of_getElem? h)
def cIx : List Nat := [37, 43, 2, 48, 54, 61, 69, 78, 88, 99]
def pIx : List Nat := [58, 64, 67, 70, 73, 76, 79, 82, 85, 88]
def sIx : List Nat := [823, 837, 814, 848, 858, 868, 881, 892, 900, 910]
def nIx : List Nat := [0, 47, 0, 52, 58, 65, 73, 82, 92, 103, 0, 0, 0, 53, 59, 66, 74, 83, 93, 104, 40, 46, 0, 51, 57, 64, 72, 81, 91, 102, 0, 0, 0, 0, 60, 67, 75, 84, 94, 105, 0, 0, 0, 0, 0, 68, 76, 85, 95, 106, 0, 0, 0, 0, 0, 0, 77, 86, 96, 107, 0, 0, 0, 0, 0, 0, 0, 87, 97, 108, 0, 0, 0, 0, 0, 0, 0, 0, 98, 109, 0, 0, 0, 0, 0, 0, 0, 0, 0, 110, 0, 0, 0, 0, 0, 0, 0, 0, 0, 0]
theorem nr_c0 : ∀ j, j < 10 → nL[cIx.getD j 0 + 2]? = some (.exactly (.static "MessageCoder$Command" (nmC j) "LMessageCoder$Command;") "MessageCoder$Command") := by decide +kernel
theorem nr_c1 : ∀ j, j < 10 → nL[cIx.getD j 0 + 3]? = some (.eq (.field (.static "MessageCoder$Command" (nmC j) "LMessageCoder$Command;") "java/lang/Enum" "ordinal" "I") (.int (nI j))) := by decide +kernel
theorem nr_c2 : ∀ j, j < 10 → nL[cIx.getD j 0 + 4]? = some (.eq (.field (.static "MessageCoder$Command" (nmC j) "LMessageCoder$Command;") "MessageCoder$Command" "form" "Ljava/lang/String;") (.string "MessageCoder$Command" (pIx.getD j 0))) := by decide +kernel
theorem nr_s0 : ∀ j, j < 10 → nL[sIx.getD j 0 + 2]? = some (.exactly (.string "MessageCoder$Command" (pIx.getD j 0)) "java/lang/String") := by decide +kernel
theorem nr_s1 : ∀ j, j < 10 → nL[sIx.getD j 0 + 3]? = some (.eq (.field (.string "MessageCoder$Command" (pIx.getD j 0)) "java/lang/String" "coder" "B") (.int (nI 0))) := by decide +kernel
theorem nr_s2 : ∀ j, j < 10 → nL[sIx.getD j 0 + 4]? = some (.arrayOf (.field (.string "MessageCoder$Command" (pIx.getD j 0)) "java/lang/String" "value" "[B") .byte) := by decide +kernel
theorem nr_s3 : ∀ j, j < 10 → nL[sIx.getD j 0 + 5]? = some (.eq (.length (.field (.string "MessageCoder$Command" (pIx.getD j 0)) "java/lang/String" "value" "[B")) (.int (Int32.ofNat (fln j)))) := by decide +kernel
theorem nr_s4 : ∀ j, j < 10 → ∀ k, k < fln j → nL[sIx.getD j 0 + 6 + k]? = some (.eq (.elem (.field (.string "MessageCoder$Command" (pIx.getD j 0)) "java/lang/String" "value" "[B") (.int (Int32.ofNat k))) (.int (nI (frm j k)))) := by decide +kernel
theorem nr_ne : ∀ i, i < 10 → ∀ j, j < 10 → i = j ∨ nL[nIx.getD (10 * i + j) 0 + 2]? = some (.not (.eq (.static "MessageCoder$Command" (nmC i) "LMessageCoder$Command;") (.static "MessageCoder$Command" (nmC j) "LMessageCoder$Command;"))) ∨ nL[nIx.getD (10 * j + i) 0 + 2]? = some (.not (.eq (.static "MessageCoder$Command" (nmC j) "LMessageCoder$Command;") (.static "MessageCoder$Command" (nmC i) "LMessageCoder$Command;"))) := by decide +kernel
theorem nr_w0 : nL[8]? = some (.arrayOf (.static "MessageCoder$1" "$SwitchMap$MessageCoder$Command" "[I") .int) := by decide +kernel
theorem nr_w1 : nL[9]? = some (.eq (.length (.static "MessageCoder$1" "$SwitchMap$MessageCoder$Command" "[I")) (.int (Int32.ofNat 10))) := by decide +kernel
theorem nr_w2 : ∀ j, j < 10 → nL[10 + j]? = some (.eq (.elem (.static "MessageCoder$1" "$SwitchMap$MessageCoder$Command" "[I") (.int (Int32.ofNat j))) (.int (nI (j + 1)))) := by decide +kernel
theorem nr_r0 : nL[21]? = some (.arrayOf (.static "MessageCoder" "REMAINDERS" "[I") .int) := by decide +kernel
theorem nr_r1 : nL[22]? = some (.eq (.length (.static "MessageCoder" "REMAINDERS" "[I")) (.int (Int32.ofNat 16))) := by decide +kernel
theorem nr_r2 : ∀ j, j < 16 → nL[23 + j]? = some (.eq (.elem (.static "MessageCoder" "REMAINDERS" "[I") (.int (Int32.ofNat j))) (.int (nI (remT j)))) := by decide +kernel
theorem nr_m0 : nL[115]? = some (.arrayOf (.static "MessageCoder" "COMMANDS" "[LMessageCoder$Command;") (.object "MessageCoder$Command")) := by decide +kernel
theorem nr_m1 : nL[116]? = some (.eq (.length (.static "MessageCoder" "COMMANDS" "[LMessageCoder$Command;")) (.int (Int32.ofNat 10))) := by decide +kernel
theorem nr_m2 : ∀ j, j < 10 → nL[118 + j]? = some (.eq (.elem (.static "MessageCoder" "COMMANDS" "[LMessageCoder$Command;") (.int (Int32.ofNat j))) (.static "MessageCoder$Command" (nmC j) "LMessageCoder$Command;")) := by decide +kernel
theorem nr_cs : nL[128]? = some (.eq (.static "java/lang/String" "COMPACT_STRINGS" "Z") (.int (nI 1))) := by decide +kernel
theorem nr_io : nL[129]? = some (.isRef (.static "jdk/internal/util/Preconditions" "SIOOBE_FORMATTER" "Ljava/util/function/BiFunction;")) := by decide +kernel
theorem nr_t0 : nL[43]? = some (.isRef (.static Bundle.tN "UNASSIGNED_STACK" Bundle.steD)) := by decide +kernel
theorem nr_t1 : nL[44]? = some (.isRef (.static Bundle.tN "SUPPRESSED_SENTINEL" Bundle.listD)) := by decide +kernel
theorem nr_n0 : nL[145]? = some (.not (.castable "java/lang/IllegalStateException" "java/lang/IllegalArgumentException")) := by decide +kernel
theorem nr_n1 : nL[179]? = some (.not (.castable "java/lang/IllegalArgumentException" "java/util/NoSuchElementException")) := by decide +kernel
theorem nr_n2 : nL[182]? = some (.not (.castable "java/lang/IndexOutOfBoundsException" "java/util/NoSuchElementException")) := by decide +kernel
theorem ls_C0 : Cond.laysStatic "MessageCoder$Command" "WEIGHT" "LMessageCoder$Command;" ∈ lw_tbl := x_of (xtb_4 (List.mem_of_getElem? (i := 53) (by decide +kernel)))
theorem ls_C1 : Cond.laysStatic "MessageCoder$Command" "DRAFT" "LMessageCoder$Command;" ∈ lw_tbl := x_of (xtb_4 (List.mem_of_getElem? (i := 134) (by decide +kernel)))
theorem ls_C2 : Cond.laysStatic "MessageCoder$Command" "CLEAR" "LMessageCoder$Command;" ∈ lw_tbl := x_of (xtb_2 (List.mem_of_getElem? (i := 126) (by decide +kernel)))
theorem ls_C3 : Cond.laysStatic "MessageCoder$Command" "POST" "LMessageCoder$Command;" ∈ lw_tbl := x_of (xtb_4 (List.mem_of_getElem? (i := 160) (by decide +kernel)))
theorem ls_C4 : Cond.laysStatic "MessageCoder$Command" "DROP" "LMessageCoder$Command;" ∈ lw_tbl := x_of (xtb_4 (List.mem_of_getElem? (i := 172) (by decide +kernel)))
theorem ls_C5 : Cond.laysStatic "MessageCoder$Command" "HURRY" "LMessageCoder$Command;" ∈ lw_tbl := x_of (xtb_4 (List.mem_of_getElem? (i := 197) (by decide +kernel)))
theorem ls_C6 : Cond.laysStatic "MessageCoder$Command" "LEARN" "LMessageCoder$Command;" ∈ lw_tbl := x_of (xtb_4 (List.mem_of_getElem? (i := 206) (by decide +kernel)))
theorem ls_C7 : Cond.laysStatic "MessageCoder$Command" "SEND" "LMessageCoder$Command;" ∈ lw_tbl := x_of (xtb_4 (List.mem_of_getElem? (i := 215) (by decide +kernel)))
theorem ls_C8 : Cond.laysStatic "MessageCoder$Command" "FLIP" "LMessageCoder$Command;" ∈ lw_tbl := x_of (xtb_5 (List.mem_of_getElem? (i := 9) (by decide +kernel)))
theorem ls_C9 : Cond.laysStatic "MessageCoder$Command" "RECEIVE" "LMessageCoder$Command;" ∈ lw_tbl := x_of (xtb_5 (List.mem_of_getElem? (i := 31) (by decide +kernel)))
theorem ls_w : Cond.laysStatic "MessageCoder$1" "$SwitchMap$MessageCoder$Command" "[I" ∈ lw_tbl := x_of (xtb_2 (List.mem_of_getElem? (i := 175) (by decide +kernel)))
theorem ls_r : Cond.laysStatic "MessageCoder" "REMAINDERS" "[I" ∈ lw_tbl := x_of (xtb_4 (List.mem_of_getElem? (i := 21) (by decide +kernel)))
theorem ls_m : Cond.laysStatic "MessageCoder" "COMMANDS" "[LMessageCoder$Command;" ∈ lw_tbl := x_of (xtb_6 (List.mem_of_getElem? (i := 69) (by decide +kernel)))
theorem ls_cs : Cond.laysStatic "java/lang/String" "COMPACT_STRINGS" "Z" ∈ lw_tbl := x_of (xtb_6 (List.mem_of_getElem? (i := 83) (by decide +kernel)))
theorem ls_io : Cond.laysStatic "jdk/internal/util/Preconditions" "SIOOBE_FORMATTER" "Ljava/util/function/BiFunction;" ∈ lw_tbl := x_of (xtb_6 (List.mem_of_getElem? (i := 99) (by decide +kernel)))
theorem ls_t0 : Cond.laysStatic Bundle.tN "UNASSIGNED_STACK" Bundle.steD ∈ lw_tbl := x_of (xtb_4 (List.mem_of_getElem? (i := 81) (by decide +kernel)))
theorem ls_t1 : Cond.laysStatic Bundle.tN "SUPPRESSED_SENTINEL" Bundle.listD ∈ lw_tbl := x_of (xtb_4 (List.mem_of_getElem? (i := 83) (by decide +kernel)))
theorem li_MessageCoder : Cond.initialized "MessageCoder" ∈ lw_tbl := x_of (xtb_1 (List.mem_of_getElem? (i := 1) (by decide +kernel)))
theorem li_MessageCoder_1 : Cond.initialized "MessageCoder$1" ∈ lw_tbl := x_of (xtb_1 (List.mem_of_getElem? (i := 15) (by decide +kernel)))
theorem li_MessageCoder_Command : Cond.initialized "MessageCoder$Command" ∈ lw_tbl := x_of (xtb_1 (List.mem_of_getElem? (i := 14) (by decide +kernel)))
theorem li_java_lang_String : Cond.initialized "java/lang/String" ∈ lw_tbl := x_of (xtb_1 (List.mem_of_getElem? (i := 24) (by decide +kernel)))
theorem li_java_lang_Throwable : Cond.initialized "java/lang/Throwable" ∈ lw_tbl := x_of (xtb_1 (List.mem_of_getElem? (i := 16) (by decide +kernel)))
theorem li_jdk_internal_util_Preconditions : Cond.initialized "jdk/internal/util/Preconditions" ∈ lw_tbl := x_of (xtb_1 (List.mem_of_getElem? (i := 28) (by decide +kernel)))
theorem ls_C : ∀ j, j < 10 → Cond.laysStatic "MessageCoder$Command" (nmC j) "LMessageCoder$Command;" ∈ lw_tbl := by
  intro j hj
  rcases (show j = 0 ∨ j = 1 ∨ j = 2 ∨ j = 3 ∨ j = 4 ∨ j = 5 ∨ j = 6 ∨ j = 7 ∨ j = 8 ∨ j = 9 by omega) with rfl | rfl | rfl | rfl | rfl | rfl | rfl | rfl | rfl | rfl
  · exact ls_C0
  · exact ls_C1
  · exact ls_C2
  · exact ls_C3
  · exact ls_C4
  · exact ls_C5
  · exact ls_C6
  · exact ls_C7
  · exact ls_C8
  · exact ls_C9
