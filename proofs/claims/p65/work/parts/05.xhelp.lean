theorem km_Code_51 : Cond.methodLink "MessageCoder$Code" 51 Lib.Math.min.name ∈ x_tbl ∧ Cond.static Lib.Math.min.name ∈ x_tbl ∧ Cond.initialized "java/lang/Math" ∈ x_tbl ∧ Cond.code Lib.Math.min.name Lib.Math.min.code 2 (some .int) ∈ x_tbl := ⟨x_in (x_of (xtb_1 (List.mem_of_getElem? (i := 74) (by decide +kernel)))) (by decide +kernel), x_in (x_of (xtb_1 (List.mem_of_getElem? (i := 75) (by decide +kernel)))) (by decide +kernel), x_in (x_of (xtb_1 (List.mem_of_getElem? (i := 4) (by decide +kernel)))) (by decide +kernel), x_in (x_of (xtb_1 (List.mem_of_getElem? (i := 76) (by decide +kernel)))) (by decide +kernel)⟩
theorem km_Text_9 : Cond.methodLink "MessageCoder$Text" 9 Lib.Math.max.name ∈ x_tbl ∧ Cond.static Lib.Math.max.name ∈ x_tbl ∧ Cond.initialized "java/lang/Math" ∈ x_tbl ∧ Cond.code Lib.Math.max.name Lib.Math.max.code 2 (some .int) ∈ x_tbl := ⟨x_in (x_of (xtb_1 (List.mem_of_getElem? (i := 116) (by decide +kernel)))) (by decide +kernel), x_in (x_of (xtb_1 (List.mem_of_getElem? (i := 117) (by decide +kernel)))) (by decide +kernel), x_in (x_of (xtb_1 (List.mem_of_getElem? (i := 4) (by decide +kernel)))) (by decide +kernel), x_in (x_of (xtb_1 (List.mem_of_getElem? (i := 118) (by decide +kernel)))) (by decide +kernel)⟩
theorem km_Code_57 : Cond.methodLink "MessageCoder$Code" 57 Lib.Math.max.name ∈ x_tbl ∧ Cond.static Lib.Math.max.name ∈ x_tbl ∧ Cond.initialized "java/lang/Math" ∈ x_tbl ∧ Cond.code Lib.Math.max.name Lib.Math.max.code 2 (some .int) ∈ x_tbl := ⟨x_in (x_of (xtb_2 (List.mem_of_getElem? (i := 237) (by decide +kernel)))) (by decide +kernel), x_in (x_of (xtb_1 (List.mem_of_getElem? (i := 117) (by decide +kernel)))) (by decide +kernel), x_in (x_of (xtb_1 (List.mem_of_getElem? (i := 4) (by decide +kernel)))) (by decide +kernel), x_in (x_of (xtb_1 (List.mem_of_getElem? (i := 118) (by decide +kernel)))) (by decide +kernel)⟩
theorem km_Ranges_29 : Cond.methodLink "MessageCoder$Ranges" 29 Lib.Math.min.name ∈ x_tbl ∧ Cond.static Lib.Math.min.name ∈ x_tbl ∧ Cond.initialized "java/lang/Math" ∈ x_tbl ∧ Cond.code Lib.Math.min.name Lib.Math.min.code 2 (some .int) ∈ x_tbl := ⟨x_in (x_of (xtb_3 (List.mem_of_getElem? (i := 19) (by decide +kernel)))) (by decide +kernel), x_in (x_of (xtb_1 (List.mem_of_getElem? (i := 75) (by decide +kernel)))) (by decide +kernel), x_in (x_of (xtb_1 (List.mem_of_getElem? (i := 4) (by decide +kernel)))) (by decide +kernel), x_in (x_of (xtb_1 (List.mem_of_getElem? (i := 76) (by decide +kernel)))) (by decide +kernel)⟩
theorem km_Text_37 : Cond.methodLink "MessageCoder$Text" 37 Lib.Math.min.name ∈ x_tbl ∧ Cond.static Lib.Math.min.name ∈ x_tbl ∧ Cond.initialized "java/lang/Math" ∈ x_tbl ∧ Cond.code Lib.Math.min.name Lib.Math.min.code 2 (some .int) ∈ x_tbl := ⟨x_in (x_of (xtb_4 (List.mem_of_getElem? (i := 215) (by decide +kernel)))) (by decide +kernel), x_in (x_of (xtb_1 (List.mem_of_getElem? (i := 75) (by decide +kernel)))) (by decide +kernel), x_in (x_of (xtb_1 (List.mem_of_getElem? (i := 4) (by decide +kernel)))) (by decide +kernel), x_in (x_of (xtb_1 (List.mem_of_getElem? (i := 76) (by decide +kernel)))) (by decide +kernel)⟩
theorem km_State_128 : Cond.methodLink "MessageCoder$State" 128 Lib.Math.min.name ∈ x_tbl ∧ Cond.static Lib.Math.min.name ∈ x_tbl ∧ Cond.initialized "java/lang/Math" ∈ x_tbl ∧ Cond.code Lib.Math.min.name Lib.Math.min.code 2 (some .int) ∈ x_tbl := ⟨x_in (x_of (xtb_5 (List.mem_of_getElem? (i := 55) (by decide +kernel)))) (by decide +kernel), x_in (x_of (xtb_1 (List.mem_of_getElem? (i := 75) (by decide +kernel)))) (by decide +kernel), x_in (x_of (xtb_1 (List.mem_of_getElem? (i := 4) (by decide +kernel)))) (by decide +kernel), x_in (x_of (xtb_1 (List.mem_of_getElem? (i := 76) (by decide +kernel)))) (by decide +kernel)⟩
theorem km_MessageCoder_479 : Cond.methodLink "MessageCoder" 479 Lib.Math.min.name ∈ x_tbl ∧ Cond.static Lib.Math.min.name ∈ x_tbl ∧ Cond.initialized "java/lang/Math" ∈ x_tbl ∧ Cond.code Lib.Math.min.name Lib.Math.min.code 2 (some .int) ∈ x_tbl := ⟨x_in (x_of (xtb_5 (List.mem_of_getElem? (i := 103) (by decide +kernel)))) (by decide +kernel), x_in (x_of (xtb_1 (List.mem_of_getElem? (i := 75) (by decide +kernel)))) (by decide +kernel), x_in (x_of (xtb_1 (List.mem_of_getElem? (i := 4) (by decide +kernel)))) (by decide +kernel), x_in (x_of (xtb_1 (List.mem_of_getElem? (i := 76) (by decide +kernel)))) (by decide +kernel)⟩
theorem km_Law_172 : Cond.methodLink "MessageCoderLaw" 172 Lib.Math.max.name ∈ x_tbl ∧ Cond.static Lib.Math.max.name ∈ x_tbl ∧ Cond.initialized "java/lang/Math" ∈ x_tbl ∧ Cond.code Lib.Math.max.name Lib.Math.max.code 2 (some .int) ∈ x_tbl := ⟨x_in (x_of (xtb_6 (List.mem_of_getElem? (i := 17) (by decide +kernel)))) (by decide +kernel), x_in (x_of (xtb_1 (List.mem_of_getElem? (i := 117) (by decide +kernel)))) (by decide +kernel), x_in (x_of (xtb_1 (List.mem_of_getElem? (i := 4) (by decide +kernel)))) (by decide +kernel), x_in (x_of (xtb_1 (List.mem_of_getElem? (i := 118) (by decide +kernel)))) (by decide +kernel)⟩
theorem km_Law_249 : Cond.methodLink "MessageCoderLaw" 249 Lib.Math.min.name ∈ x_tbl ∧ Cond.static Lib.Math.min.name ∈ x_tbl ∧ Cond.initialized "java/lang/Math" ∈ x_tbl ∧ Cond.code Lib.Math.min.name Lib.Math.min.code 2 (some .int) ∈ x_tbl := ⟨x_in (x_of (xtb_6 (List.mem_of_getElem? (i := 18) (by decide +kernel)))) (by decide +kernel), x_in (x_of (xtb_1 (List.mem_of_getElem? (i := 75) (by decide +kernel)))) (by decide +kernel), x_in (x_of (xtb_1 (List.mem_of_getElem? (i := 4) (by decide +kernel)))) (by decide +kernel), x_in (x_of (xtb_1 (List.mem_of_getElem? (i := 76) (by decide +kernel)))) (by decide +kernel)⟩
theorem km_ArraysSupport_194 : Cond.methodLink "jdk/internal/util/ArraysSupport" 194 Lib.Math.max.name ∈ x_tbl ∧ Cond.static Lib.Math.max.name ∈ x_tbl ∧ Cond.initialized "java/lang/Math" ∈ x_tbl ∧ Cond.code Lib.Math.max.name Lib.Math.max.code 2 (some .int) ∈ x_tbl := ⟨x_in (x_of (xtb_6 (List.mem_of_getElem? (i := 185) (by decide +kernel)))) (by decide +kernel), x_in (x_of (xtb_1 (List.mem_of_getElem? (i := 117) (by decide +kernel)))) (by decide +kernel), x_in (x_of (xtb_1 (List.mem_of_getElem? (i := 4) (by decide +kernel)))) (by decide +kernel), x_in (x_of (xtb_1 (List.mem_of_getElem? (i := 118) (by decide +kernel)))) (by decide +kernel)⟩
theorem km_Arrays_304 : Cond.methodLink "java/util/Arrays" 304 Lib.Math.min.name ∈ x_tbl ∧ Cond.static Lib.Math.min.name ∈ x_tbl ∧ Cond.initialized "java/lang/Math" ∈ x_tbl ∧ Cond.code Lib.Math.min.name Lib.Math.min.code 2 (some .int) ∈ x_tbl := ⟨x_in (x_of (xtb_6 (List.mem_of_getElem? (i := 201) (by decide +kernel)))) (by decide +kernel), x_in (x_of (xtb_1 (List.mem_of_getElem? (i := 75) (by decide +kernel)))) (by decide +kernel), x_in (x_of (xtb_1 (List.mem_of_getElem? (i := 4) (by decide +kernel)))) (by decide +kernel), x_in (x_of (xtb_1 (List.mem_of_getElem? (i := 76) (by decide +kernel)))) (by decide +kernel)⟩
/-! naturals as ints: helpers of the walks -/
def xb (p : Prop) [Decidable p] : Int32 := if p then 1 else 0
theorem xb_t {p : Prop} [Decidable p] (h : p) : xb p = 1 := if_pos h
theorem xb_f {p : Prop} [Decidable p] (h : ¬ p) : xb p = 0 := if_neg h
theorem xb_t1 {p : Prop} [Decidable p] (h : p) : nI 1 = xb p := (if_pos h).symm
theorem xb_f0 {p : Prop} [Decidable p] (h : ¬ p) : nI 0 = xb p := (if_neg h).symm
theorem xb_c {p q : Prop} [Decidable p] [Decidable q] (h : p ↔ q) : xb p = xb q := by
  by_cases hp : p
  · rw [xb_t hp, xb_t (h.mp hp)]
  · rw [xb_f hp, xb_f (fun a => hp (h.mpr a))]
theorem xb_nar {p : Prop} [Decidable p] : narrow .boolean (.int (xb p)) = .int (xb p) := by
  by_cases hp : p
  · rw [xb_t hp]; rfl
  · rw [xb_f hp]; rfl
theorem x_ofN (m : Nat) : Int32.ofInt (m : Int) = nI m := by
  show Int32.ofInt (m : Int) = Int32.ofNat m
  exact Int32.ofInt_eq_ofNat
theorem x_incN {i : Nat} (m : Nat) : nI i + Int32.ofInt (m : Int) = nI (i + m) := by rw [x_ofN, nI_add]
theorem x_decN {i : Nat} (h : 1 ≤ i) : nI i + Int32.ofInt (-1) = nI (i - 1) := by
  obtain ⟨j, rfl⟩ : ∃ j, i = j + 1 := ⟨i - 1, by omega⟩
  exact pk_m1 j
theorem x_addN {a b c : Nat} (h : a + b = c) : nI a + nI b = nI c := by rw [nI_add, h]
theorem x_ne0 {a : Nat} (h : 0 < a) (h2 : a < 2 ^ 31) : ¬ nI a = 0 := nI_ne0 h h2
theorem x_char (c : Nat) (h : c < 65536) : narrow .char (.int (nI c)) = .int (nI c) := (pk_charN h).1
theorem x_i2cN {a : Nat} (h : a < 65536) : ((nI a).toUInt32 % 65536).toInt32 = nI a := by
  rw [pk_char, pk_tn (by omega), Nat.mod_eq_of_lt h]
def updN (s : Nat → Nat) (k x : Nat) : Nat → Nat := fun j => if j = k then x else s j
theorem updN_eq {s : Nat → Nat} {k x : Nat} : updN s k x k = x := if_pos rfl
theorem updN_ne {s : Nat → Nat} {k x j : Nat} (h : j ≠ k) : updN s k x j = s j := if_neg h
theorem x_updN (s : Nat → Nat) (k x : Nat) : upd (fun b => nI (s b)) k (nI x) = fun b => nI (updN s k x b) := by
  funext b
  by_cases h : b = k
  · simp [upd, updN, h]
  · simp [upd, updN, h]
theorem nI_inj {a b : Nat} (ha : a < 2 ^ 31) (hb : b < 2 ^ 31) (h : nI a = nI b) : a = b := (nI_eq ha hb).mp h
section XH
variable {P : xP} {Θ : xT} {cc : ByteArray} {own : String} {nL d mc ms pc : Nat} {L : List (Option Value)} {st : List Value} {F : xF} {z k n : Nat}
theorem x_icmpN_eq (hC : xC P Θ cc own nL d mc ms) {a b : Nat} {off : Int} {tgt : Nat} (hd : decode cc pc = .ok (.if_icmp .eq off, 3)) (ht : (pc : Int) + off = (tgt : Int)) (ha : a < 2 ^ 31) (hb : b < 2 ^ 31) (kt : a = b → xX P Θ tgt L st F z k n) (kf : ¬ a = b → xX P Θ (pc + 3) L st F z k n) : xX P Θ pc L (.int (nI b) :: .int (nI a) :: st) F z k n := x_icmp_eq hC hd ht (fun c9 => kt ((nI_eq ha hb).mp c9)) (fun c9 => kf (fun e => c9 ((nI_eq ha hb).mpr e)))
theorem x_icmpN_ne (hC : xC P Θ cc own nL d mc ms) {a b : Nat} {off : Int} {tgt : Nat} (hd : decode cc pc = .ok (.if_icmp .ne off, 3)) (ht : (pc : Int) + off = (tgt : Int)) (ha : a < 2 ^ 31) (hb : b < 2 ^ 31) (kt : ¬ a = b → xX P Θ tgt L st F z k n) (kf : a = b → xX P Θ (pc + 3) L st F z k n) : xX P Θ pc L (.int (nI b) :: .int (nI a) :: st) F z k n := x_icmp_ne hC hd ht (fun c9 => kt (fun e => c9 ((nI_eq ha hb).mpr e))) (fun c9 => kf ((nI_eq ha hb).mp c9))
theorem x_icmpN_lt (hC : xC P Θ cc own nL d mc ms) {a b : Nat} {off : Int} {tgt : Nat} (hd : decode cc pc = .ok (.if_icmp .lt off, 3)) (ht : (pc : Int) + off = (tgt : Int)) (ha : a < 2 ^ 31) (hb : b < 2 ^ 31) (kt : a < b → xX P Θ tgt L st F z k n) (kf : b ≤ a → xX P Θ (pc + 3) L st F z k n) : xX P Θ pc L (.int (nI b) :: .int (nI a) :: st) F z k n := x_icmp_lt hC hd ht (fun c9 => kt ((nI_ltI ha hb).mp c9)) (fun c9 => kf (Nat.le_of_not_lt (fun e => c9 ((nI_ltI ha hb).mpr e))))
theorem x_icmpN_ge (hC : xC P Θ cc own nL d mc ms) {a b : Nat} {off : Int} {tgt : Nat} (hd : decode cc pc = .ok (.if_icmp .ge off, 3)) (ht : (pc : Int) + off = (tgt : Int)) (ha : a < 2 ^ 31) (hb : b < 2 ^ 31) (kt : b ≤ a → xX P Θ tgt L st F z k n) (kf : a < b → xX P Θ (pc + 3) L st F z k n) : xX P Θ pc L (.int (nI b) :: .int (nI a) :: st) F z k n := x_icmp_ge hC hd ht (fun c9 => kt ((nI_leI hb ha).mp c9)) (fun c9 => kf (Nat.lt_of_not_le (fun e => c9 ((nI_leI hb ha).mpr e))))
theorem x_icmpN_gt (hC : xC P Θ cc own nL d mc ms) {a b : Nat} {off : Int} {tgt : Nat} (hd : decode cc pc = .ok (.if_icmp .gt off, 3)) (ht : (pc : Int) + off = (tgt : Int)) (ha : a < 2 ^ 31) (hb : b < 2 ^ 31) (kt : b < a → xX P Θ tgt L st F z k n) (kf : a ≤ b → xX P Θ (pc + 3) L st F z k n) : xX P Θ pc L (.int (nI b) :: .int (nI a) :: st) F z k n := x_icmp_gt hC hd ht (fun c9 => kt ((nI_ltI hb ha).mp c9)) (fun c9 => kf (Nat.le_of_not_lt (fun e => c9 ((nI_ltI hb ha).mpr e))))
theorem x_icmpN_le (hC : xC P Θ cc own nL d mc ms) {a b : Nat} {off : Int} {tgt : Nat} (hd : decode cc pc = .ok (.if_icmp .le off, 3)) (ht : (pc : Int) + off = (tgt : Int)) (ha : a < 2 ^ 31) (hb : b < 2 ^ 31) (kt : a ≤ b → xX P Θ tgt L st F z k n) (kf : b < a → xX P Θ (pc + 3) L st F z k n) : xX P Θ pc L (.int (nI b) :: .int (nI a) :: st) F z k n := x_icmp_le hC hd ht (fun c9 => kt ((nI_leI ha hb).mp c9)) (fun c9 => kf (Nat.lt_of_not_le (fun e => c9 ((nI_leI ha hb).mpr e))))
theorem x_ifN_eq (hC : xC P Θ cc own nL d mc ms) {a : Nat} {off : Int} {tgt : Nat} (hd : decode cc pc = .ok (.ifCond .eq off, 3)) (ht : (pc : Int) + off = (tgt : Int)) (ha : a < 2 ^ 31) (kt : a = 0 → xX P Θ tgt L st F z k n) (kf : 0 < a → xX P Θ (pc + 3) L st F z k n) : xX P Θ pc L (.int (nI a) :: st) F z k n := by
  have e0 : (nI a = 0) ↔ a = 0 := by rw [show (0 : Int32) = nI 0 from rfl]; exact nI_eq ha (by decide)
  have e1 : ((0 : Int32) ≤ nI a) ↔ 0 ≤ a := by rw [show (0 : Int32) = nI 0 from rfl]; exact nI_leI (by decide) ha
  have e2 : ((0 : Int32) < nI a) ↔ 0 < a := by rw [show (0 : Int32) = nI 0 from rfl]; exact nI_ltI (by decide) ha
  have e3 : (nI a < (0 : Int32)) ↔ a < 0 := by rw [show (0 : Int32) = nI 0 from rfl]; exact nI_ltI ha (by decide)
  have e4 : (nI a ≤ (0 : Int32)) ↔ a ≤ 0 := by rw [show (0 : Int32) = nI 0 from rfl]; exact nI_leI ha (by decide)
  exact x_if_eq hC hd ht (fun c9 => kt (by first | omega | (rw [e0] at c9; omega) | (rw [e1] at c9; omega) | (rw [e2] at c9; omega) | (rw [e3] at c9; omega) | (rw [e4] at c9; omega))) (fun c9 => kf (by first | omega | (rw [e0] at c9; omega) | (rw [e1] at c9; omega) | (rw [e2] at c9; omega) | (rw [e3] at c9; omega) | (rw [e4] at c9; omega)))
theorem x_ifN_ne (hC : xC P Θ cc own nL d mc ms) {a : Nat} {off : Int} {tgt : Nat} (hd : decode cc pc = .ok (.ifCond .ne off, 3)) (ht : (pc : Int) + off = (tgt : Int)) (ha : a < 2 ^ 31) (kt : 0 < a → xX P Θ tgt L st F z k n) (kf : a = 0 → xX P Θ (pc + 3) L st F z k n) : xX P Θ pc L (.int (nI a) :: st) F z k n := by
  have e0 : (nI a = 0) ↔ a = 0 := by rw [show (0 : Int32) = nI 0 from rfl]; exact nI_eq ha (by decide)
  have e1 : ((0 : Int32) ≤ nI a) ↔ 0 ≤ a := by rw [show (0 : Int32) = nI 0 from rfl]; exact nI_leI (by decide) ha
  have e2 : ((0 : Int32) < nI a) ↔ 0 < a := by rw [show (0 : Int32) = nI 0 from rfl]; exact nI_ltI (by decide) ha
  have e3 : (nI a < (0 : Int32)) ↔ a < 0 := by rw [show (0 : Int32) = nI 0 from rfl]; exact nI_ltI ha (by decide)
  have e4 : (nI a ≤ (0 : Int32)) ↔ a ≤ 0 := by rw [show (0 : Int32) = nI 0 from rfl]; exact nI_leI ha (by decide)
  exact x_if_ne hC hd ht (fun c9 => kt (by first | omega | (rw [e0] at c9; omega) | (rw [e1] at c9; omega) | (rw [e2] at c9; omega) | (rw [e3] at c9; omega) | (rw [e4] at c9; omega))) (fun c9 => kf (by first | omega | (rw [e0] at c9; omega) | (rw [e1] at c9; omega) | (rw [e2] at c9; omega) | (rw [e3] at c9; omega) | (rw [e4] at c9; omega)))
theorem x_ifN_lt (hC : xC P Θ cc own nL d mc ms) {a : Nat} {off : Int} {tgt : Nat} (hd : decode cc pc = .ok (.ifCond .lt off, 3)) (ht : (pc : Int) + off = (tgt : Int)) (ha : a < 2 ^ 31) (kt : False → xX P Θ tgt L st F z k n) (kf : 0 ≤ a → xX P Θ (pc + 3) L st F z k n) : xX P Θ pc L (.int (nI a) :: st) F z k n := by
  have e0 : (nI a = 0) ↔ a = 0 := by rw [show (0 : Int32) = nI 0 from rfl]; exact nI_eq ha (by decide)
  have e1 : ((0 : Int32) ≤ nI a) ↔ 0 ≤ a := by rw [show (0 : Int32) = nI 0 from rfl]; exact nI_leI (by decide) ha
  have e2 : ((0 : Int32) < nI a) ↔ 0 < a := by rw [show (0 : Int32) = nI 0 from rfl]; exact nI_ltI (by decide) ha
  have e3 : (nI a < (0 : Int32)) ↔ a < 0 := by rw [show (0 : Int32) = nI 0 from rfl]; exact nI_ltI ha (by decide)
  have e4 : (nI a ≤ (0 : Int32)) ↔ a ≤ 0 := by rw [show (0 : Int32) = nI 0 from rfl]; exact nI_leI ha (by decide)
  exact x_if_lt hC hd ht (fun c9 => kt (by first | omega | (rw [e0] at c9; omega) | (rw [e1] at c9; omega) | (rw [e2] at c9; omega) | (rw [e3] at c9; omega) | (rw [e4] at c9; omega))) (fun c9 => kf (by first | omega | (rw [e0] at c9; omega) | (rw [e1] at c9; omega) | (rw [e2] at c9; omega) | (rw [e3] at c9; omega) | (rw [e4] at c9; omega)))
theorem x_ifN_ge (hC : xC P Θ cc own nL d mc ms) {a : Nat} {off : Int} {tgt : Nat} (hd : decode cc pc = .ok (.ifCond .ge off, 3)) (ht : (pc : Int) + off = (tgt : Int)) (ha : a < 2 ^ 31) (kt : 0 ≤ a → xX P Θ tgt L st F z k n) (kf : False → xX P Θ (pc + 3) L st F z k n) : xX P Θ pc L (.int (nI a) :: st) F z k n := by
  have e0 : (nI a = 0) ↔ a = 0 := by rw [show (0 : Int32) = nI 0 from rfl]; exact nI_eq ha (by decide)
  have e1 : ((0 : Int32) ≤ nI a) ↔ 0 ≤ a := by rw [show (0 : Int32) = nI 0 from rfl]; exact nI_leI (by decide) ha
  have e2 : ((0 : Int32) < nI a) ↔ 0 < a := by rw [show (0 : Int32) = nI 0 from rfl]; exact nI_ltI (by decide) ha
  have e3 : (nI a < (0 : Int32)) ↔ a < 0 := by rw [show (0 : Int32) = nI 0 from rfl]; exact nI_ltI ha (by decide)
  have e4 : (nI a ≤ (0 : Int32)) ↔ a ≤ 0 := by rw [show (0 : Int32) = nI 0 from rfl]; exact nI_leI ha (by decide)
  exact x_if_ge hC hd ht (fun c9 => kt (by first | omega | (rw [e0] at c9; omega) | (rw [e1] at c9; omega) | (rw [e2] at c9; omega) | (rw [e3] at c9; omega) | (rw [e4] at c9; omega))) (fun c9 => kf (by first | omega | (rw [e0] at c9; omega) | (rw [e1] at c9; omega) | (rw [e2] at c9; omega) | (rw [e3] at c9; omega) | (rw [e4] at c9; omega)))
theorem x_ifN_gt (hC : xC P Θ cc own nL d mc ms) {a : Nat} {off : Int} {tgt : Nat} (hd : decode cc pc = .ok (.ifCond .gt off, 3)) (ht : (pc : Int) + off = (tgt : Int)) (ha : a < 2 ^ 31) (kt : 0 < a → xX P Θ tgt L st F z k n) (kf : a = 0 → xX P Θ (pc + 3) L st F z k n) : xX P Θ pc L (.int (nI a) :: st) F z k n := by
  have e0 : (nI a = 0) ↔ a = 0 := by rw [show (0 : Int32) = nI 0 from rfl]; exact nI_eq ha (by decide)
  have e1 : ((0 : Int32) ≤ nI a) ↔ 0 ≤ a := by rw [show (0 : Int32) = nI 0 from rfl]; exact nI_leI (by decide) ha
  have e2 : ((0 : Int32) < nI a) ↔ 0 < a := by rw [show (0 : Int32) = nI 0 from rfl]; exact nI_ltI (by decide) ha
  have e3 : (nI a < (0 : Int32)) ↔ a < 0 := by rw [show (0 : Int32) = nI 0 from rfl]; exact nI_ltI ha (by decide)
  have e4 : (nI a ≤ (0 : Int32)) ↔ a ≤ 0 := by rw [show (0 : Int32) = nI 0 from rfl]; exact nI_leI ha (by decide)
  exact x_if_gt hC hd ht (fun c9 => kt (by first | omega | (rw [e0] at c9; omega) | (rw [e1] at c9; omega) | (rw [e2] at c9; omega) | (rw [e3] at c9; omega) | (rw [e4] at c9; omega))) (fun c9 => kf (by first | omega | (rw [e0] at c9; omega) | (rw [e1] at c9; omega) | (rw [e2] at c9; omega) | (rw [e3] at c9; omega) | (rw [e4] at c9; omega)))
theorem x_ifN_le (hC : xC P Θ cc own nL d mc ms) {a : Nat} {off : Int} {tgt : Nat} (hd : decode cc pc = .ok (.ifCond .le off, 3)) (ht : (pc : Int) + off = (tgt : Int)) (ha : a < 2 ^ 31) (kt : a = 0 → xX P Θ tgt L st F z k n) (kf : 0 < a → xX P Θ (pc + 3) L st F z k n) : xX P Θ pc L (.int (nI a) :: st) F z k n := by
  have e0 : (nI a = 0) ↔ a = 0 := by rw [show (0 : Int32) = nI 0 from rfl]; exact nI_eq ha (by decide)
  have e1 : ((0 : Int32) ≤ nI a) ↔ 0 ≤ a := by rw [show (0 : Int32) = nI 0 from rfl]; exact nI_leI (by decide) ha
  have e2 : ((0 : Int32) < nI a) ↔ 0 < a := by rw [show (0 : Int32) = nI 0 from rfl]; exact nI_ltI (by decide) ha
  have e3 : (nI a < (0 : Int32)) ↔ a < 0 := by rw [show (0 : Int32) = nI 0 from rfl]; exact nI_ltI ha (by decide)
  have e4 : (nI a ≤ (0 : Int32)) ↔ a ≤ 0 := by rw [show (0 : Int32) = nI 0 from rfl]; exact nI_leI ha (by decide)
  exact x_if_le hC hd ht (fun c9 => kt (by first | omega | (rw [e0] at c9; omega) | (rw [e1] at c9; omega) | (rw [e2] at c9; omega) | (rw [e3] at c9; omega) | (rw [e4] at c9; omega))) (fun c9 => kf (by first | omega | (rw [e0] at c9; omega) | (rw [e1] at c9; omega) | (rw [e2] at c9; omega) | (rw [e3] at c9; omega) | (rw [e4] at c9; omega)))
theorem x_ifB_eq (hC : xC P Θ cc own nL d mc ms) {p : Prop} [Decidable p] {off : Int} {tgt : Nat} (hd : decode cc pc = .ok (.ifCond .eq off, 3)) (ht : (pc : Int) + off = (tgt : Int)) (kt : ¬ p → xX P Θ tgt L st F z k n) (kf : p → xX P Θ (pc + 3) L st F z k n) : xX P Θ pc L (.int (xb p) :: st) F z k n := by
  by_cases hp : p
  · rw [xb_t hp]
    exact x_if_eq hC hd ht (fun c9 => absurd c9 (by decide)) (fun c9 => kf hp)
  · rw [xb_f hp]
    exact x_if_eq hC hd ht (fun c9 => kt hp) (fun c9 => absurd rfl c9)
theorem x_ifB_ne (hC : xC P Θ cc own nL d mc ms) {p : Prop} [Decidable p] {off : Int} {tgt : Nat} (hd : decode cc pc = .ok (.ifCond .ne off, 3)) (ht : (pc : Int) + off = (tgt : Int)) (kt : p → xX P Θ tgt L st F z k n) (kf : ¬ p → xX P Θ (pc + 3) L st F z k n) : xX P Θ pc L (.int (xb p) :: st) F z k n := by
  by_cases hp : p
  · rw [xb_t hp]
    exact x_if_ne hC hd ht (fun c9 => kt hp) (fun c9 => absurd c9 (by decide))
  · rw [xb_f hp]
    exact x_if_ne hC hd ht (fun c9 => absurd rfl c9) (fun c9 => kf hp)
theorem x_mmax (hC : xC P Θ cc own nL d mc ms) {index : Nat} {x y : Int32} (hk : Cond.methodLink own index Lib.Math.max.name ∈ x_tbl ∧ Cond.static Lib.Math.max.name ∈ x_tbl ∧ Cond.initialized "java/lang/Math" ∈ x_tbl ∧ Cond.code Lib.Math.max.name Lib.Math.max.code 2 (some .int) ∈ x_tbl) (hL : L.length = nL) (hd1 : 1 ≤ d) (hst : (st.map fun v => v.category).sum ≤ 8) (hm : k ≤ mc ∧ n ≤ ms) (hd : decode cc pc = .ok (.invokestatic index, 3)) (kk : xX P Θ (pc + 3) L (.int (if x < y then y else x) :: st) F z k n) : xX P Θ pc L (.int y :: .int x :: st) F z k n := by
  intro H locs ls hW hl hx
  have hR := hC.2.2.2.2.2.2.1
  exact va_mmax hC.1 hC.2.1 (by rw [hC.2.2.1, ← hL]; exact hx.1.symm) hC.2.2.2.1 (hC.2.2.2.2.1 _ hk.1) (hC.2.2.2.2.1 _ hk.2.1) (hC.2.2.2.2.1 _ hk.2.2.1) (hC.2.2.2.2.1 _ hk.2.2.2) (by rw [hR]; exact hd1) (by rw [hR]; show _ + 13 ≤ 60 * d; omega) (by rw [hR]; exact hm.1) (by rw [hR]; exact hm.2) hd (kk H locs ls hW hl hx)
theorem x_mmaxN (hC : xC P Θ cc own nL d mc ms) {index : Nat} {x y v : Nat} (hk : Cond.methodLink own index Lib.Math.max.name ∈ x_tbl ∧ Cond.static Lib.Math.max.name ∈ x_tbl ∧ Cond.initialized "java/lang/Math" ∈ x_tbl ∧ Cond.code Lib.Math.max.name Lib.Math.max.code 2 (some .int) ∈ x_tbl) (hx0 : x < 2 ^ 31) (hy0 : y < 2 ^ 31) (hL : L.length = nL) (hd1 : 1 ≤ d) (hst : (st.map fun v => v.category).sum ≤ 8) (hm : k ≤ mc ∧ n ≤ ms) (hd : decode cc pc = .ok (.invokestatic index, 3)) (hv : (if x < y then y else x) = v) (kk : xX P Θ (pc + 3) L (.int (nI v) :: st) F z k n) : xX P Θ pc L (.int (nI y) :: .int (nI x) :: st) F z k n := by
  refine x_mmax hC hk hL hd1 hst hm hd ?_
  have e : (if (nI x < nI y) then nI y else nI x) = nI v := by
    rw [← hv]
    by_cases h : x < y
    · rw [if_pos ((nI_ltI hx0 hy0).mpr h), if_pos h]
    · rw [if_neg (fun q => h ((nI_ltI hx0 hy0).mp q)), if_neg h]
  rw [show (if nI x < nI y then nI y else nI x) = nI v from e]
  exact kk
theorem x_mmin (hC : xC P Θ cc own nL d mc ms) {index : Nat} {x y : Int32} (hk : Cond.methodLink own index Lib.Math.min.name ∈ x_tbl ∧ Cond.static Lib.Math.min.name ∈ x_tbl ∧ Cond.initialized "java/lang/Math" ∈ x_tbl ∧ Cond.code Lib.Math.min.name Lib.Math.min.code 2 (some .int) ∈ x_tbl) (hL : L.length = nL) (hd1 : 1 ≤ d) (hst : (st.map fun v => v.category).sum ≤ 8) (hm : k ≤ mc ∧ n ≤ ms) (hd : decode cc pc = .ok (.invokestatic index, 3)) (kk : xX P Θ (pc + 3) L (.int (if y < x then y else x) :: st) F z k n) : xX P Θ pc L (.int y :: .int x :: st) F z k n := by
  intro H locs ls hW hl hx
  have hR := hC.2.2.2.2.2.2.1
  exact va_mmin hC.1 hC.2.1 (by rw [hC.2.2.1, ← hL]; exact hx.1.symm) hC.2.2.2.1 (hC.2.2.2.2.1 _ hk.1) (hC.2.2.2.2.1 _ hk.2.1) (hC.2.2.2.2.1 _ hk.2.2.1) (hC.2.2.2.2.1 _ hk.2.2.2) (by rw [hR]; exact hd1) (by rw [hR]; show _ + 13 ≤ 60 * d; omega) (by rw [hR]; exact hm.1) (by rw [hR]; exact hm.2) hd (kk H locs ls hW hl hx)
theorem x_mminN (hC : xC P Θ cc own nL d mc ms) {index : Nat} {x y v : Nat} (hk : Cond.methodLink own index Lib.Math.min.name ∈ x_tbl ∧ Cond.static Lib.Math.min.name ∈ x_tbl ∧ Cond.initialized "java/lang/Math" ∈ x_tbl ∧ Cond.code Lib.Math.min.name Lib.Math.min.code 2 (some .int) ∈ x_tbl) (hx0 : x < 2 ^ 31) (hy0 : y < 2 ^ 31) (hL : L.length = nL) (hd1 : 1 ≤ d) (hst : (st.map fun v => v.category).sum ≤ 8) (hm : k ≤ mc ∧ n ≤ ms) (hd : decode cc pc = .ok (.invokestatic index, 3)) (hv : (if y < x then y else x) = v) (kk : xX P Θ (pc + 3) L (.int (nI v) :: st) F z k n) : xX P Θ pc L (.int (nI y) :: .int (nI x) :: st) F z k n := by
  refine x_mmin hC hk hL hd1 hst hm hd ?_
  have e : (if (nI x > nI y) then nI y else nI x) = nI v := by
    rw [← hv]
    by_cases h : x > y
    · rw [if_pos ((nI_ltI hy0 hx0).mpr h), if_pos h]
    · rw [if_neg (fun q => h ((nI_ltI hy0 hx0).mp q)), if_neg h]
  rw [show (if nI y < nI x then nI y else nI x) = nI v from e]
  exact kk
def xsub : List (Option Value) → List (Option Value) → Prop
  | [], [] => True
  | a :: l, b :: m => (a = none ∨ a = b) ∧ xsub l m
  | _, _ => False
theorem xsub_at : ∀ (L1 L2 : List (Option Value)), xsub L1 L2 → L1.length = L2.length ∧ ∀ (i : Nat) (v : Value), L1[i]? = some (some v) → L2[i]? = some (some v)
  | [], [], _ => ⟨rfl, fun i v h => by simp at h⟩
  | a :: l, b :: m, h => by
    obtain ⟨h1, h2⟩ := xsub_at l m h.2
    refine ⟨by simp [h1], fun i v hi => ?_⟩
    cases i with
    | zero =>
      rw [List.getElem?_cons_zero] at hi ⊢
      rcases h.1 with e | e
      · rw [e] at hi; cases hi
      · rw [← e]; exact hi
    | succ i =>
      rw [List.getElem?_cons_succ] at hi ⊢
      exact h2 i v hi
  | [], _ :: _, h => h.elim
  | _ :: _, [], h => h.elim
theorem x_forget {L1 : List (Option Value)} (h : xsub L1 L) (kk : xX P Θ pc L1 st F z k n) : xX P Θ pc L st F z k n := fun H locs ls hW hl hx => kk H locs ls hW hl ⟨hx.1.trans (xsub_at _ _ h).1.symm, hx.2.1, fun i v hi => hx.2.2 i v ((xsub_at _ _ h).2 i v hi)⟩
theorem x_top {x v : Int32} (h : x = v) (kk : xX P Θ pc L (.int v :: st) F z k n) : xX P Θ pc L (.int x :: st) F z k n := by rw [h]; exact kk
theorem x_top1 {x v : Int32} {va : Value} (h : x = v) (kk : xX P Θ pc L (va :: .int v :: st) F z k n) : xX P Θ pc L (va :: .int x :: st) F z k n := by rw [h]; exact kk
theorem x_top2 {x v : Int32} {va vb : Value} (h : x = v) (kk : xX P Θ pc L (va :: vb :: .int v :: st) F z k n) : xX P Θ pc L (va :: vb :: .int x :: st) F z k n := by rw [h]; exact kk
theorem x_s31 : ∀ j, j < 32 → ((nI j &&& 31).toBitVec.smod 32).toNat = j := by decide +kernel
theorem x_shlN {a c : Nat} (j : Nat) (hj : j < 32) (h : a * 2 ^ j < 2 ^ 32) (hc : a * 2 ^ j = c) : nI a <<< (nI j &&& 31) = nI c := by rw [← hc]; exact pk_shlN _ j (x_s31 j hj) h
theorem x_shrN {a c : Nat} (j : Nat) (hj : j < 32) (h : a < 2 ^ 31) (hc : a / 2 ^ j = c) : nI a >>> (nI j &&& 31) = nI c := by rw [← hc]; exact pk_shrN h _ j (x_s31 j hj)
theorem x_and1 {a : Nat} (h : a < 2 ^ 31) : nI a &&& nI 1 = nI (a % 2) := pk_andN (m := nI 1) (by omega) 1 (by decide)
theorem x_and15 {a : Nat} (h : a < 2 ^ 31) : nI a &&& nI 15 = nI (a % 16) := pk_andN (m := nI 15) (by omega) 4 (by decide)
theorem x_and7 {a : Nat} (h : a < 2 ^ 31) : nI a &&& nI 7 = nI (a % 8) := pk_andN (m := nI 7) (by omega) 3 (by decide)
theorem x_xorN (a b : Nat) : nI a ^^^ nI b = nI (a ^^^ b) := by
  show Int32.ofNat a ^^^ Int32.ofNat b = Int32.ofNat (a ^^^ b)
  apply Int32.toBitVec_inj.mp
  show BitVec.ofNat 32 a ^^^ BitVec.ofNat 32 b = BitVec.ofNat 32 (a ^^^ b)
  rw [BitVec.ofNat_xor]
theorem x_orN (a b : Nat) : nI a ||| nI b = nI (a ||| b) := by
  show Int32.ofNat a ||| Int32.ofNat b = Int32.ofNat (a ||| b)
  apply Int32.toBitVec_inj.mp
  show BitVec.ofNat 32 a ||| BitVec.ofNat 32 b = BitVec.ofNat 32 (a ||| b)
  rw [BitVec.ofNat_or]
theorem x_or2 {a b : Nat} (h : b < 2) : nI (a * 2) ||| nI b = nI (a * 2 + b) := by
  rw [x_orN]
  congr 1
  have := Nat.shiftLeft_add_eq_or_of_lt (a := a) (b := b) (i := 1) h
  rw [Nat.shiftLeft_eq, Nat.pow_one] at this
  exact this.symm
/-- 8 for none -/
def xo (f : Nat) : Int32 := if f = 8 then -1 else nI f
theorem xo_of {f : Nat} (h : f < 8) : xo f = nI f := if_neg (by omega)
theorem xo_8 : xo 8 = -1 := rfl
theorem xo_inj {f g : Nat} (hf : f ≤ 8) (hg : g ≤ 8) : xo f = xo g ↔ f = g := by
  have h : ∀ a, a ≤ 8 → ∀ b, b ≤ 8 → (xo a = xo b ↔ a = b) := by decide +kernel
  exact h f hf g hg
theorem xo_eq8 {f : Nat} (hf : f ≤ 8) : xo f = -1 ↔ f = 8 := by rw [← xo_8]; exact xo_inj hf (by omega)
theorem xo_eqN {f g : Nat} (hf : f < 8) (hg : g ≤ 8) : nI f = xo g ↔ f = g := by rw [← xo_of hf]; exact xo_inj (by omega) hg
end XH
