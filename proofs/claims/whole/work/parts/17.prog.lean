section XM2
variable {P : xP} {Θ : xT} {cc : ByteArray} {own : String} {nL d mc ms pc : Nat} {L : List (Option Value)} {st : List Value} {F : xF} {z k n : Nat}
theorem x_getSN (hC : xC P Θ cc own nL d mc ms) {oc nm ds host : String} {v : Value} {t index : Nat} (hz : ∀ U, P.2.2.2.2 U → va_OF oc nm ds v t (xA0 P) U P.2.2.1) (hk : Cond.fieldLinkNest own index oc nm ds host ∈ x_nst) (hd : decode cc pc = .ok (.getfield index, 3)) (kk : xX P Θ (pc + 3) L (v :: st) F z k n) : xX P Θ pc L (.ref t :: st) F z k n := by
  intro H locs ls hW hl hx
  obtain ⟨U0, hal, hks⟩ := hC.2.2.2.2.2.1.2.2.2
  obtain ⟨cf, kf, fi, f, cell, h1, h2, h3, h4, h5, h6⟩ := va_OF.moved hal (hz U0 hks)
  exact va_Wgetf hC.1 hC.2.1 hC.2.2.2.1 (va_Nw.use rfl (hC.2.2.2.2.2.1.2.2.1 _ hk)) h1 h2 (by rw [x_old hW h6]; exact h3) h4 h5 (g := F0 Θ.2.2.2.2.1 pc ls (.ref t :: st)) rfl rfl hd (kk H locs ls hW hl hx)
end XM2
/-! the parser -/
def frmL : List (List Nat) := [[119, 101, 105, 103, 104, 116, 32, 83, 61, 78], [100, 114, 97, 102, 116, 32, 76], [99, 108, 101, 97, 114], [112, 111, 115, 116, 32, 68], [100, 114, 111, 112, 32, 78], [104, 117, 114, 114, 121, 32, 78, 32, 68], [108, 101, 97, 114, 110, 32, 78], [115, 101, 110, 100], [102, 108, 105, 112, 32, 78], [114, 101, 99, 101, 105, 118, 101]]
def frm (c j : Nat) : Nat := (frmL.getD c []).getD j 0
def fln (c : Nat) : Nat := (frmL.getD c []).length
def nmC (c : Nat) : String := (["WEIGHT", "DRAFT", "CLEAR", "POST", "DROP", "HURRY", "LEARN", "SEND", "FLIP", "RECEIVE"] : List String).getD c ""
theorem frm_ok : ∀ c, c < 10 → fln c ≤ 10 ∧ ∀ j, j < fln c → frm c j ≠ 0 ∧ frm c j < 128 := by decide +kernel
/-- the commands stand: their row, their objects, their forms' texts and bytes, the formatter -/
abbrev cmT : Type := Nat × (Nat → Nat) × (Nat → Nat) × (Nat → Nat) × Nat
def xCM (P : xP) (cm : cmT) : Prop := (∀ U, P.2.2.2.2 U → va_Z "MessageCoder" "COMMANDS" "[LMessageCoder$Command;" (.ref cm.1) (xA0 P) U P.2.2.1) ∧ (∀ U, P.2.2.2.2 U → va_T (.object "MessageCoder$Command") cm.1 10 (fun j => .ref (cm.2.1 j)) (xA0 P) U P.2.2.1) ∧ (∀ j, j < 10 → ∀ U, P.2.2.2.2 U → va_O "MessageCoder$Command" (cm.2.1 j) (xA0 P) U P.2.2.1) ∧ (∀ j, j < 10 → ∀ U, P.2.2.2.2 U → va_OF "MessageCoder$Command" "form" "Ljava/lang/String;" (.ref (cm.2.2.1 j)) (cm.2.1 j) (xA0 P) U P.2.2.1) ∧ (∀ j, j < 10 → xStr P (cm.2.2.1 j) (cm.2.2.2.1 j) cm.2.2.2.2 (fln j) (frm j)) ∧ (∀ j, j < 10 → ∀ U, P.2.2.2.2 U → va_OF "java/lang/Enum" "ordinal" "I" (.int (nI j)) (cm.2.1 j) (xA0 P) U P.2.2.1) ∧ (∀ i, i < 10 → ∀ j, j < 10 → cm.2.1 i = cm.2.1 j → i = j) ∧ ∀ j, j < 10 → ∀ U, P.2.2.2.2 U → va_Z "MessageCoder$Command" (nmC j) "LMessageCoder$Command;" (.ref (cm.2.1 j)) (xA0 P) U P.2.2.1
def sgN (n : Nat) (s : Nat → Nat) (a : Nat) : Nat := if a < n then s a else 0
theorem sgN_lt {n : Nat} {s : Nat → Nat} (h : ∀ j, j < n → s j < 65536) (a : Nat) : (if a < n then s a else 0) < 65536 := by
  by_cases q : a < n
  · rw [if_pos q]; exact h a q
  · rw [if_neg q]; decide
theorem sgN_in {n : Nat} {s : Nat → Nat} {a c : Nat} (h : sgN n s a = c) (hc : c ≠ 0) : a < n := by
  unfold sgN at h
  by_cases q : a < n
  · exact q
  · rw [if_neg q] at h; exact absurd h.symm hc
/-- place, first, second, whether there is a first -/
abbrev pS : Type := Nat × Nat × Nat × Nat
def gv3 (f1 f2 hf v : Nat) : Nat × Nat × Nat := if hf = 0 then (v, f2, 1) else (f1, v, hf)
def pGv (q : pS) (v : Nat) : pS := (q.1, gv3 q.2.1 q.2.2.1 q.2.2.2 v)
def pAt (q : pS) (a : Nat) : pS := (a, q.2)
abbrev isSy (c : Nat) : Prop := 97 ≤ c ∧ c < 105
abbrev isDg (c : Nat) : Prop := 48 ≤ c ∧ c ≤ 57
def pSign (n : Nat) (s : Nat → Nat) (c : Nat) (q : pS) : Bool × pS := if sgN n s q.1 = c then (true, pAt q (q.1 + 1)) else (false, q)
def pSym (n : Nat) (s : Nat → Nat) (q : pS) : Bool × pS := if isSy (sgN n s q.1) then (true, pAt (pGv q (sgN n s q.1)) (q.1 + 1)) else (false, q)
def pEnd (n : Nat) (s : Nat → Nat) (a : Nat) : Nat → Nat
  | 0 => a
  | k + 1 => if pEnd n s a k < n ∧ isSy (sgN n s (pEnd n s a k)) then pEnd n s a k + 1 else pEnd n s a k
def pSyms (n : Nat) (s : Nat → Nat) (q : pS) : Bool × pS := (decide (q.1 < pEnd n s q.1 n), pAt (pGv (pGv q q.1) (pEnd n s q.1 n)) (pEnd n s q.1 n))
def pDg (n : Nat) (s : Nat → Nat) (a : Nat) : Nat → Nat × Nat
  | 0 => (0, 0)
  | k + 1 => if (pDg n s a k).1 = k ∧ isDg (sgN n s (a + k)) then (k + 1, (pDg n s a k).2 * 10 + (sgN n s (a + k) - 48)) else pDg n s a k
def pNum (n : Nat) (s : Nat → Nat) (m : Nat) (q : pS) : Bool × pS := (decide (0 < (pDg n s q.1 m).1), pAt (pGv q (pDg n s q.1 m).2) (q.1 + (pDg n s q.1 m).1))
def pPart (n : Nat) (s : Nat → Nat) (c : Nat) (q : pS) : Bool × pS := if c = 68 then pNum n s 1 q else if c = 76 then pSyms n s q else if c = 78 then pNum n s 3 q else if c = 83 then pSym n s q else pSign n s c q
def pForm (n : Nat) (s g : Nat → Nat) (a : Nat) : Nat → Bool × pS
  | 0 => (true, a, 0, 0, 0)
  | k + 1 => if (pForm n s g a k).1 = true then pPart n s (g k) (pForm n s g a k).2 else pForm n s g a k
def pTry (n : Nat) (s : Nat → Nat) (a c : Nat) : Bool × pS := pForm n s (frm c) a (fln c)
def pCmd (n : Nat) (s : Nat → Nat) (a : Nat) : Nat → Nat × Nat
  | 0 => (0, a)
  | k + 1 => if (pCmd n s a k).1 < k then pCmd n s a k else if (pTry n s a k).1 = true then (k, (pCmd n s a k).2) else (k + 1, if (pCmd n s a k).2 < (pTry n s a k).2.1 then (pTry n s a k).2.1 else (pCmd n s a k).2)
theorem pForm_stop {n : Nat} {s g : Nat → Nat} {a k : Nat} (h : (pForm n s g a k).1 = false) : ∀ j, pForm n s g a (k + j) = pForm n s g a k
  | 0 => rfl
  | j + 1 => by
    show (if (pForm n s g a (k + j)).1 = true then _ else pForm n s g a (k + j)) = _
    rw [pForm_stop h j, if_neg (by rw [h]; decide)]
theorem pEnd_stop {n : Nat} {s : Nat → Nat} {a k : Nat} (h : ¬ (pEnd n s a k < n ∧ isSy (sgN n s (pEnd n s a k)))) : ∀ j, pEnd n s a (k + j) = pEnd n s a k
  | 0 => rfl
  | j + 1 => by
    show (if pEnd n s a (k + j) < n ∧ isSy (sgN n s (pEnd n s a (k + j))) then _ else pEnd n s a (k + j)) = _
    rw [pEnd_stop h j, if_neg h]
theorem pEnd_le {n : Nat} {s : Nat → Nat} {a : Nat} (h : a ≤ n) : ∀ k, pEnd n s a k ≤ n
  | 0 => h
  | k + 1 => by
    have h1 := pEnd_le (s := s) h k
    unfold pEnd
    split
    · omega
    · exact h1
theorem pDg_stop {n : Nat} {s : Nat → Nat} {a k : Nat} (h : ¬ isDg (sgN n s (a + k))) (hk : (pDg n s a k).1 = k) : ∀ j, pDg n s a (k + j) = pDg n s a k
  | 0 => rfl
  | j + 1 => by
    show (if (pDg n s a (k + j)).1 = k + j ∧ isDg (sgN n s (a + (k + j))) then _ else pDg n s a (k + j)) = _
    rw [pDg_stop h hk j]
    by_cases e : j = 0
    · subst e
      rw [if_neg (fun q => h q.2)]
    · rw [if_neg (fun q => by have := q.1; omega)]
theorem pDg_le {n : Nat} {s : Nat → Nat} {a : Nat} (ha : a ≤ n) : ∀ k, (pDg n s a k).1 ≤ k ∧ a + (pDg n s a k).1 ≤ n ∧ (pDg n s a k).2 < 10 ^ k
  | 0 => ⟨Nat.le_refl 0, ha, Nat.one_pos⟩
  | k + 1 => by
    have h := pDg_le (s := s) ha k
    have e : 10 ^ (k + 1) = 10 ^ k * 10 := Nat.pow_succ _ _
    unfold pDg
    split
    · rename_i q
      have h2 := sgN_in (n := n) (s := s) (a := a + k) rfl (by have := q.2.1; omega)
      have h3 := q.2.2
      refine ⟨Nat.le_refl _, by show a + (k + 1) ≤ n; omega, ?_⟩
      show (pDg n s a k).2 * 10 + (sgN n s (a + k) - 48) < 10 ^ (k + 1)
      omega
    · exact ⟨by omega, h.2.1, by omega⟩
def pB (n : Nat) (q : pS) : Prop := q.1 ≤ n ∧ q.2.1 ≤ 1000 ∧ q.2.2.1 ≤ 1000 ∧ q.2.2.2 ≤ 1
theorem pGv_B {n v : Nat} {q : pS} (h : pB n q) (hv : v ≤ 1000) : pB n (pGv q v) := by
  unfold pGv gv3
  split
  · exact ⟨h.1, hv, h.2.2.1, Nat.le_refl 1⟩
  · exact ⟨h.1, h.2.1, hv, h.2.2.2⟩
theorem pAt_B {n a : Nat} {q : pS} (h : pB n q) (ha : a ≤ n) : pB n (pAt q a) := ⟨ha, h.2⟩
theorem pPart_B {n : Nat} {s : Nat → Nat} {c : Nat} {q : pS} (hn : n ≤ 60) (hc : c ≠ 0) (h : pB n q) : pB n (pPart n s c q).2 := by
  have hnum : ∀ m, m ≤ 3 → pB n (pNum n s m q).2 := by
    intro m hm
    have h1 := pDg_le (s := s) h.1 m
    have h2 : 10 ^ m ≤ 10 ^ 3 := Nat.pow_le_pow_right (by decide) hm
    exact pAt_B (pGv_B h (by omega)) h1.2.1
  unfold pPart
  split
  · exact hnum 1 (by decide)
  · split
    · have h1 := pEnd_le (s := s) h.1 n
      have h3 := h.1
      exact pAt_B (pGv_B (pGv_B h (by omega)) (by omega)) h1
    · split
      · exact hnum 3 (by decide)
      · split
        · unfold pSym
          split
          · rename_i q1
            have h2 := sgN_in (n := n) (s := s) (a := q.1) rfl (by have := q1.1; omega)
            exact pAt_B (pGv_B h (by have := q1.2; omega)) h2
          · exact h
        · unfold pSign
          split
          · rename_i q1
            have h2 := sgN_in q1 hc
            exact pAt_B h h2
          · exact h
theorem pForm_B {n : Nat} {s g : Nat → Nat} {a : Nat} (hn : n ≤ 60) (ha : a ≤ n) : ∀ k, (∀ j, j < k → g j ≠ 0) → pB n (pForm n s g a k).2
  | 0, _ => ⟨ha, Nat.zero_le _, Nat.zero_le _, Nat.zero_le _⟩
  | k + 1, hg => by
    have h := pForm_B (s := s) hn ha k (fun j hj => hg j (by omega))
    unfold pForm
    split
    · exact pPart_B hn (hg k (by omega)) h
    · exact h
theorem pTry_B {n : Nat} {s : Nat → Nat} {a c : Nat} (hn : n ≤ 60) (ha : a ≤ n) (hc : c < 10) : pB n (pTry n s a c).2 := pForm_B hn ha _ (fun j hj => ((frm_ok c hc).2 j hj).1)
theorem pCmd_le {n : Nat} {s : Nat → Nat} {a : Nat} (hn : n ≤ 60) (ha : a ≤ n) : ∀ k, k ≤ 10 → (pCmd n s a k).1 ≤ k ∧ (pCmd n s a k).2 ≤ n
  | 0, _ => ⟨Nat.le_refl 0, ha⟩
  | k + 1, hk => by
    have h := pCmd_le (s := s) hn ha k (by omega)
    have h2 := (pTry_B (s := s) hn ha (show k < 10 by omega)).1
    unfold pCmd
    split
    · exact ⟨by omega, h.2⟩
    · split
      · exact ⟨Nat.le_succ k, h.2⟩
      · refine ⟨Nat.le_refl _, ?_⟩
        show (if (pCmd n s a k).2 < (pTry n s a k).2.1 then (pTry n s a k).2.1 else (pCmd n s a k).2) ≤ n
        split
        · exact h2
        · exact h.2
theorem pCmd_found {n : Nat} {s : Nat → Nat} {a c : Nat} (h : (pCmd n s a c).1 < c) : ∀ j, pCmd n s a (c + j) = pCmd n s a c
  | 0 => rfl
  | j + 1 => by
    show (if (pCmd n s a (c + j)).1 < c + j then pCmd n s a (c + j) else _) = _
    rw [pCmd_found h j, if_pos (by omega)]
theorem pCmd_hit {n : Nat} {s : Nat → Nat} {a c fu : Nat} (h : pCmd n s a c = (c, fu)) (ht : (pTry n s a c).1 = true) (hc : c < 10) : (pCmd n s a 10).1 = c := by
  have e : pCmd n s a (c + 1) = (c, fu) := by
    unfold pCmd
    rw [h, if_neg (by omega), if_pos ht]
  have e2 := pCmd_found (n := n) (s := s) (a := a) (c := c + 1) (by rw [e]; exact Nat.lt_succ_self c) (10 - (c + 1))
  rw [show c + 1 + (10 - (c + 1)) = 10 by omega, e] at e2
  rw [e2]
/-- the steps: how many, and their rows -/
abbrev kS : Type := Nat × (Nat → Nat) × (Nat → Nat) × (Nat → Nat) × (Nat → Nat)
def kStep (q : kS) (c one two cc : Nat) : kS := if q.1 < 60 then (q.1 + 1, updN q.2.1 q.1 c, updN q.2.2.1 q.1 one, updN q.2.2.2.1 q.1 two, updN q.2.2.2.2 q.1 cc) else q
def kDraft (n : Nat) (s : Nat → Nat) (q : kS) (cc b : Nat) : Nat → kS
  | 0 => q
  | k + 1 => kStep (kDraft n s q cc b k) 1 (sgN n s (b + k)) 0 cc
def kCmd (n : Nat) (s : Nat → Nat) (q : kS) (c f1 f2 cc : Nat) : kS := if c = 1 then kDraft n s q cc f1 (f2 - f1) else kStep q c f1 f2 cc
def xPk (F : xF) (g : Nat) (ce : Nat → Nat) (K : kS) : Prop := K.1 ≤ 60 ∧ (∃ fv : Nat → Value, F (g + 3) = some (.inr (6, 60, fv)) ∧ ∀ j, j < K.1 → fv j = .ref (ce (K.2.1 j)) ∧ K.2.1 j < 10) ∧ (∃ g1 : Nat → Nat, F (g + 4) = some (.inr (0, 60, fun b9 => .int (nI (g1 b9)))) ∧ ∀ j, j < K.1 → g1 j = K.2.2.1 j) ∧ (∃ g2 : Nat → Nat, F (g + 5) = some (.inr (0, 60, fun b9 => .int (nI (g2 b9)))) ∧ ∀ j, j < K.1 → g2 j = K.2.2.2.1 j) ∧ ∃ g3 : Nat → Nat, F (g + 6) = some (.inr (0, 60, fun b9 => .int (nI (g3 b9)))) ∧ ∀ j, j < K.1 → g3 j = K.2.2.2.2 j
theorem xPk_fr {F F1 : xF} {g : Nat} {ce : Nat → Nat} {K : kS} (h : xPk F g ce K) (hf : ∀ a, g + 3 ≤ a → a < g + 3 + 4 → F1 a = F a) : xPk F1 g ce K := by
  obtain ⟨h0, ⟨fv, h1, h2⟩, ⟨g1, h3, h4⟩, ⟨g2, h5, h6⟩, g3, h7, h8⟩ := h
  exact ⟨h0, ⟨fv, (hf _ (by omega) (by omega)).trans h1, h2⟩, ⟨g1, (hf _ (by omega) (by omega)).trans h3, h4⟩, ⟨g2, (hf _ (by omega) (by omega)).trans h5, h6⟩, g3, (hf _ (by omega) (by omega)).trans h7, h8⟩
theorem xPk_0 {F : xF} {g : Nat} {ce : Nat → Nat} {K : kS} (h : xPk F g ce K) : xPk F g ce (0, fun _ => 0, fun _ => 0, fun _ => 0, fun _ => 0) := by
  obtain ⟨h0, ⟨fv, h1, h2⟩, ⟨g1, h3, h4⟩, ⟨g2, h5, h6⟩, g3, h7, h8⟩ := h
  exact ⟨Nat.zero_le _, ⟨fv, h1, fun j hj => absurd hj (Nat.not_lt_zero j)⟩, ⟨g1, h3, fun j hj => absurd hj (Nat.not_lt_zero j)⟩, ⟨g2, h5, fun j hj => absurd hj (Nat.not_lt_zero j)⟩, g3, h7, fun j hj => absurd hj (Nat.not_lt_zero j)⟩
theorem upd_row {f : Nat → Nat} {g : Nat → Nat} {k x : Nat} (h : ∀ j, j < k → g j = f j) : ∀ j, j < k + 1 → updN g k x j = updN f k x j := by
  intro j hj
  by_cases e : j = k
  · rw [e, updN_eq, updN_eq]
  · rw [updN_ne e, updN_ne e]
    exact h j (by omega)
/-- the whole reading: state (0: on; 1: a program; 2: malformed), place, steps, commands -/
abbrev rS : Type := Nat × Nat × kS × Nat
def rdK (n : Nat) (s : Nat → Nat) (q : kS) (a cc : Nat) : kS := kCmd n s q (pCmd n s a 10).1 (pTry n s a (pCmd n s a 10).1).2.2.1 (pTry n s a (pCmd n s a 10).1).2.2.2.1 cc
def rdA (n : Nat) (s : Nat → Nat) (a : Nat) : Nat := (pTry n s a (pCmd n s a 10).1).2.1
def rdN (n : Nat) (s : Nat → Nat) (q : rS) : rS :=
  if q.1 = 0 then
    if (pCmd n s q.2.1 10).1 < 10 then
      if n ≤ rdA n s q.2.1 then (1, rdA n s q.2.1, rdK n s q.2.2.1 q.2.1 q.2.2.2, q.2.2.2 + 1)
      else if sgN n s (rdA n s q.2.1) = 59 then (0, rdA n s q.2.1 + 1, rdK n s q.2.2.1 q.2.1 q.2.2.2, q.2.2.2 + 1)
      else (2, rdA n s q.2.1, rdK n s q.2.2.1 q.2.1 q.2.2.2, q.2.2.2 + 1)
    else (2, (pCmd n s q.2.1 10).2, q.2.2.1, q.2.2.2)
  else q
def rdS (n : Nat) (s : Nat → Nat) : Nat → rS
  | 0 => (0, 0, (0, fun _ => 0, fun _ => 0, fun _ => 0, fun _ => 0), 0)
  | k + 1 => rdN n s (rdS n s k)
theorem rdS_stop {n : Nat} {s : Nat → Nat} {k : Nat} (h : ¬ (rdS n s k).1 = 0) : ∀ j, rdS n s (k + j) = rdS n s k
  | 0 => rfl
  | j + 1 => by
    show rdN n s (rdS n s (k + j)) = _
    rw [rdS_stop h j]
    unfold rdN
    rw [if_neg h]
theorem rdS_end {n : Nat} {s : Nat → Nat} {k : Nat} {r : rS} (h : rdS n s (k + 1) = r) (hk : k < 60) (hr : ¬ r.1 = 0) : rdS n s 60 = r := by
  have e := rdS_stop (n := n) (s := s) (k := k + 1) (by rw [h]; exact hr) (60 - (k + 1))
  rw [show k + 1 + (60 - (k + 1)) = 60 by omega, h] at e
  exact e

theorem d_Program_isDigit_0 : decode prog_8_method_10_code 0 = .ok (.iload_n 0, 1) := by decide +kernel
theorem d_Program_isDigit_1 : decode prog_8_method_10_code 1 = .ok (.bipush 48, 2) := by decide +kernel
theorem d_Program_isDigit_3 : decode prog_8_method_10_code 3 = .ok (.if_icmp .lt 13, 3) := by decide +kernel
theorem d_Program_isDigit_6 : decode prog_8_method_10_code 6 = .ok (.iload_n 0, 1) := by decide +kernel
theorem d_Program_isDigit_7 : decode prog_8_method_10_code 7 = .ok (.bipush 57, 2) := by decide +kernel
theorem d_Program_isDigit_9 : decode prog_8_method_10_code 9 = .ok (.if_icmp .gt 7, 3) := by decide +kernel
theorem d_Program_isDigit_12 : decode prog_8_method_10_code 12 = .ok (.iconst 1, 1) := by decide +kernel
theorem d_Program_isDigit_13 : decode prog_8_method_10_code 13 = .ok (.goto 4, 3) := by decide +kernel
theorem d_Program_isDigit_16 : decode prog_8_method_10_code 16 = .ok (.iconst 0, 1) := by decide +kernel
theorem d_Program_isDigit_17 : decode prog_8_method_10_code 17 = .ok (.ireturn, 1) := by decide +kernel
set_option maxHeartbeats 4000000 in
set_option maxRecDepth 20000 in
theorem c_Program_isDigit {P : xP} {F : xF} {z : Nat} {c : Nat}  (hc : c < 65536) : xM P xy_Program_isDigit [.int (nI (c))] F (z) 0 0 (fun r9 F9 z9 => r9 = some (.int (xb (48 ≤ c ∧ c ≤ 57))) ∧ F9 = F ∧ z9 = z) := by
  refine xM_i .boolean rfl (Nat.le_of_ble_eq_true rfl) (L0 := [some (.int (nI (c)))]) rfl rfl fun Θ hC hret => ?_
  refine x_iload_n hC d_Program_isDigit_0 rfl rfl ?_
  refine x_bipush hC d_Program_isDigit_1 (v := nI 48) (by decide) ?_
  refine x_icmpN_lt hC d_Program_isDigit_3 (tgt := 16) (by decide) (by omega) (by omega) (fun c_3 => ?_) (fun c_3 => ?_)
  · skip
    refine x_iconst hC d_Program_isDigit_16 (v := nI 0) (by decide) ?_
    exact hret _ _ _ _ _ _ _ d_Program_isDigit_17 (by decide) (by decide) rfl (⟨congrArg (fun q => some (Value.int q)) (xb_f0 (by omega)), rfl, rfl⟩)
  · skip
    refine x_iload_n hC d_Program_isDigit_6 rfl rfl ?_
    refine x_bipush hC d_Program_isDigit_7 (v := nI 57) (by decide) ?_
    refine x_icmpN_gt hC d_Program_isDigit_9 (tgt := 16) (by decide) (by omega) (by omega) (fun c_9 => ?_) (fun c_9 => ?_)
    · skip
      refine x_iconst hC d_Program_isDigit_16 (v := nI 0) (by decide) ?_
      exact hret _ _ _ _ _ _ _ d_Program_isDigit_17 (by decide) (by decide) rfl (⟨congrArg (fun q => some (Value.int q)) (xb_f0 (by omega)), rfl, rfl⟩)
    · skip
      refine x_iconst hC d_Program_isDigit_12 (v := nI 1) (by decide) ?_
      refine x_goto hC d_Program_isDigit_13 (tgt := 17) (by decide) ?_
      exact hret _ _ _ _ _ _ _ d_Program_isDigit_17 (by decide) (by decide) rfl (⟨congrArg (fun q => some (Value.int q)) (xb_t1 (by omega)), rfl, rfl⟩)

theorem d_Program_give_0 : decode prog_8_method_11_code 0 = .ok (.aload_n 0, 1) := by decide +kernel
theorem d_Program_give_1 : decode prog_8_method_11_code 1 = .ok (.getfield 78, 3) := by decide +kernel
theorem d_Program_give_4 : decode prog_8_method_11_code 4 = .ok (.ifCond .eq 11, 3) := by decide +kernel
theorem d_Program_give_7 : decode prog_8_method_11_code 7 = .ok (.aload_n 0, 1) := by decide +kernel
theorem d_Program_give_8 : decode prog_8_method_11_code 8 = .ok (.iload_n 1, 1) := by decide +kernel
theorem d_Program_give_9 : decode prog_8_method_11_code 9 = .ok (.putfield 85, 3) := by decide +kernel
theorem d_Program_give_12 : decode prog_8_method_11_code 12 = .ok (.goto 13, 3) := by decide +kernel
theorem d_Program_give_15 : decode prog_8_method_11_code 15 = .ok (.aload_n 0, 1) := by decide +kernel
theorem d_Program_give_16 : decode prog_8_method_11_code 16 = .ok (.iload_n 1, 1) := by decide +kernel
theorem d_Program_give_17 : decode prog_8_method_11_code 17 = .ok (.putfield 82, 3) := by decide +kernel
theorem d_Program_give_20 : decode prog_8_method_11_code 20 = .ok (.aload_n 0, 1) := by decide +kernel
theorem d_Program_give_21 : decode prog_8_method_11_code 21 = .ok (.iconst 1, 1) := by decide +kernel
theorem d_Program_give_22 : decode prog_8_method_11_code 22 = .ok (.putfield 78, 3) := by decide +kernel
theorem d_Program_give_25 : decode prog_8_method_11_code 25 = .ok (.return_, 1) := by decide +kernel
set_option maxHeartbeats 4000000 in
set_option maxRecDepth 20000 in
theorem c_Program_give {P : xP} {F : xF} {z : Nat} {g : Nat} {sc : Nat} {cc : Nat} {a : Nat} {f1 : Nat} {f2 : Nat} {hf : Nat} {v : Nat} (p0 : F (g) = some (.inl (4, [.ref (g + 1), .ref (g + 3), .ref (g + 4), .ref (g + 5), .ref (g + 6), .int (nI (sc)), .int (nI (cc)), .int (nI (a)), .int (nI (f1)), .int (nI (f2)), .int (nI (hf))]))) (h1 : hf ≤ 1) : xM P xy_Program_give [.ref g, .int (nI (v))] F (z) 0 0 (fun r9 F9 z9 => r9 = none ∧ z9 = z ∧ F9 (g) = some (.inl (4, [.ref (g + 1), .ref (g + 3), .ref (g + 4), .ref (g + 5), .ref (g + 6), .int (nI (sc)), .int (nI (cc)), .int (nI (a)), .int (nI ((gv3 f1 f2 hf v).1)), .int (nI ((gv3 f1 f2 hf v).2.1)), .int (nI ((gv3 f1 f2 hf v).2.2))])) ∧ (∀ a9 : Nat, (a9 < g ∨ g + 1 ≤ a9) → F9 a9 = F a9)) := by
  refine xM_v rfl (Nat.le_of_ble_eq_true rfl) (L0 := [some (.ref g), some (.int (nI (v)))]) rfl rfl fun Θ hC hin hret => ?_
  have hag : ∀ a9 : Nat, (a9 < g ∨ g + 1 ≤ a9) → F a9 = F a9 := fun a9 _ => rfl
  refine x_aload_n hC d_Program_give_0 rfl rfl ?_
  refine x_getf hC kf_Program_78 p0 rfl d_Program_give_1 ?_
  refine x_ifN_eq hC d_Program_give_4 (tgt := 15) (by decide) (by omega) (fun c_4 => ?_) (fun c_4 => ?_)
  · skip
    refine x_aload_n hC d_Program_give_15 rfl rfl ?_
    refine x_iload_n hC d_Program_give_16 rfl rfl ?_
    refine x_putf hC kf_Program_82 p0 (Nat.le_of_ble_eq_true rfl) rfl rfl d_Program_give_17 (fs1 := [.ref (g + 1), .ref (g + 3), .ref (g + 4), .ref (g + 5), .ref (g + 6), .int (nI (sc)), .int (nI (cc)), .int (nI (a)), .int (nI (v)), .int (nI (f2)), .int (nI (hf))]) rfl ?_
    generalize e1 : xup F (g) (.inl (4, [.ref (g + 1), .ref (g + 3), .ref (g + 4), .ref (g + 5), .ref (g + 6), .int (nI (sc)), .int (nI (cc)), .int (nI (a)), .int (nI (v)), .int (nI (f2)), .int (nI (hf))])) = F1
    have p0 : F1 (g) = some (.inl (4, [.ref (g + 1), .ref (g + 3), .ref (g + 4), .ref (g + 5), .ref (g + 6), .int (nI (sc)), .int (nI (cc)), .int (nI (a)), .int (nI (v)), .int (nI (f2)), .int (nI (hf))])) := by rw [← e1]; exact xup_eq
    have hag : ∀ a9 : Nat, (a9 < g ∨ g + 1 ≤ a9) → F1 a9 = F a9 := fun a9 q0 => by rw [← e1]; exact (xup_ne (by omega)).trans (hag a9 q0)
    refine x_aload_n hC d_Program_give_20 rfl rfl ?_
    refine x_iconst hC d_Program_give_21 (v := nI 1) (by decide) ?_
    refine x_putf hC kf_Program_78 p0 (Nat.le_of_ble_eq_true rfl) rfl rfl d_Program_give_22 (fs1 := [.ref (g + 1), .ref (g + 3), .ref (g + 4), .ref (g + 5), .ref (g + 6), .int (nI (sc)), .int (nI (cc)), .int (nI (a)), .int (nI (v)), .int (nI (f2)), .int (nI 1)]) rfl ?_
    generalize e2 : xup F1 (g) (.inl (4, [.ref (g + 1), .ref (g + 3), .ref (g + 4), .ref (g + 5), .ref (g + 6), .int (nI (sc)), .int (nI (cc)), .int (nI (a)), .int (nI (v)), .int (nI (f2)), .int (nI 1)])) = F2
    have p0 : F2 (g) = some (.inl (4, [.ref (g + 1), .ref (g + 3), .ref (g + 4), .ref (g + 5), .ref (g + 6), .int (nI (sc)), .int (nI (cc)), .int (nI (a)), .int (nI (v)), .int (nI (f2)), .int (nI 1)])) := by rw [← e2]; exact xup_eq
    have hag : ∀ a9 : Nat, (a9 < g ∨ g + 1 ≤ a9) → F2 a9 = F a9 := fun a9 q0 => by rw [← e2]; exact (xup_ne (by omega)).trans (hag a9 q0)
    refine hret _ _ _ _ _ _ d_Program_give_25 (by decide) (by decide) ?_
    have e9 : gv3 f1 f2 hf v = (v, f2, 1) := if_pos c_4
    exact ⟨rfl, rfl, by rw [e9]; exact p0, hag⟩
  · skip
    refine x_aload_n hC d_Program_give_7 rfl rfl ?_
    refine x_iload_n hC d_Program_give_8 rfl rfl ?_
    refine x_putf hC kf_Program_85 p0 (Nat.le_of_ble_eq_true rfl) rfl rfl d_Program_give_9 (fs1 := [.ref (g + 1), .ref (g + 3), .ref (g + 4), .ref (g + 5), .ref (g + 6), .int (nI (sc)), .int (nI (cc)), .int (nI (a)), .int (nI (f1)), .int (nI (v)), .int (nI (hf))]) rfl ?_
    generalize e3 : xup F (g) (.inl (4, [.ref (g + 1), .ref (g + 3), .ref (g + 4), .ref (g + 5), .ref (g + 6), .int (nI (sc)), .int (nI (cc)), .int (nI (a)), .int (nI (f1)), .int (nI (v)), .int (nI (hf))])) = F3
    have p0 : F3 (g) = some (.inl (4, [.ref (g + 1), .ref (g + 3), .ref (g + 4), .ref (g + 5), .ref (g + 6), .int (nI (sc)), .int (nI (cc)), .int (nI (a)), .int (nI (f1)), .int (nI (v)), .int (nI (hf))])) := by rw [← e3]; exact xup_eq
    have hag : ∀ a9 : Nat, (a9 < g ∨ g + 1 ≤ a9) → F3 a9 = F a9 := fun a9 q0 => by rw [← e3]; exact (xup_ne (by omega)).trans (hag a9 q0)
    refine x_goto hC d_Program_give_12 (tgt := 25) (by decide) ?_
    refine hret _ _ _ _ _ _ d_Program_give_25 (by decide) (by decide) ?_
    have e9 : gv3 f1 f2 hf v = (f1, v, hf) := if_neg (fun (q : hf = 0) => absurd c_4 (by omega))
    exact ⟨rfl, rfl, by rw [e9]; exact p0, hag⟩

theorem d_Program_readsSign_0 : decode prog_8_method_6_code 0 = .ok (.aload_n 0, 1) := by decide +kernel
theorem d_Program_readsSign_1 : decode prog_8_method_6_code 1 = .ok (.getfield 14, 3) := by decide +kernel
theorem d_Program_readsSign_4 : decode prog_8_method_6_code 4 = .ok (.aload_n 0, 1) := by decide +kernel
theorem d_Program_readsSign_5 : decode prog_8_method_6_code 5 = .ok (.getfield 43, 3) := by decide +kernel
theorem d_Program_readsSign_8 : decode prog_8_method_6_code 8 = .ok (.invokevirtual 110, 3) := by decide +kernel
theorem d_Program_readsSign_11 : decode prog_8_method_6_code 11 = .ok (.iload_n 1, 1) := by decide +kernel
theorem d_Program_readsSign_12 : decode prog_8_method_6_code 12 = .ok (.if_icmp .eq 5, 3) := by decide +kernel
theorem d_Program_readsSign_15 : decode prog_8_method_6_code 15 = .ok (.iconst 0, 1) := by decide +kernel
theorem d_Program_readsSign_16 : decode prog_8_method_6_code 16 = .ok (.ireturn, 1) := by decide +kernel
theorem d_Program_readsSign_17 : decode prog_8_method_6_code 17 = .ok (.aload_n 0, 1) := by decide +kernel
theorem d_Program_readsSign_18 : decode prog_8_method_6_code 18 = .ok (.dup, 1) := by decide +kernel
theorem d_Program_readsSign_19 : decode prog_8_method_6_code 19 = .ok (.getfield 43, 3) := by decide +kernel
theorem d_Program_readsSign_22 : decode prog_8_method_6_code 22 = .ok (.iconst 1, 1) := by decide +kernel
theorem d_Program_readsSign_23 : decode prog_8_method_6_code 23 = .ok (.iadd, 1) := by decide +kernel
theorem d_Program_readsSign_24 : decode prog_8_method_6_code 24 = .ok (.putfield 43, 3) := by decide +kernel
theorem d_Program_readsSign_27 : decode prog_8_method_6_code 27 = .ok (.iconst 1, 1) := by decide +kernel
theorem d_Program_readsSign_28 : decode prog_8_method_6_code 28 = .ok (.ireturn, 1) := by decide +kernel
set_option maxHeartbeats 4000000 in
set_option maxRecDepth 20000 in
theorem c_Program_readsSign {P : xP} {F : xF} {z : Nat} {g : Nat} {sc : Nat} {cc : Nat} {a : Nat} {f1 : Nat} {f2 : Nat} {hf : Nat} {n : Nat} {s : Nat → Nat} {c : Nat} (p0 : F (g) = some (.inl (4, [.ref (g + 1), .ref (g + 3), .ref (g + 4), .ref (g + 5), .ref (g + 6), .int (nI (sc)), .int (nI (cc)), .int (nI (a)), .int (nI (f1)), .int (nI (f2)), .int (nI (hf))]))) (ht : xTx F (g + 1) (60) (n) (s)) (hB : pB n (a, f1, f2, hf)) (hc0 : c < 65536) : xM P xy_Program_readsSign [.ref g, .int (nI (c))] F (z) 0 0 (fun r9 F9 z9 => r9 = some (.int (xb ((pSign n s c (a, f1, f2, hf)).1 = true))) ∧ z9 = z ∧ F9 (g) = some (.inl (4, [.ref (g + 1), .ref (g + 3), .ref (g + 4), .ref (g + 5), .ref (g + 6), .int (nI (sc)), .int (nI (cc)), .int (nI (((pSign n s c (a, f1, f2, hf)).2).1)), .int (nI (((pSign n s c (a, f1, f2, hf)).2).2.1)), .int (nI (((pSign n s c (a, f1, f2, hf)).2).2.2.1)), .int (nI (((pSign n s c (a, f1, f2, hf)).2).2.2.2))])) ∧ (∀ a9 : Nat, (a9 < g ∨ g + 1 ≤ a9) → F9 a9 = F a9)) := by
  refine xM_i .boolean rfl (Nat.le_of_ble_eq_true rfl) (L0 := [some (.ref g), some (.int (nI (c)))]) rfl rfl fun Θ hC hret => ?_
  have hag : ∀ a9 : Nat, (a9 < g ∨ g + 1 ≤ a9) → F a9 = F a9 := fun a9 _ => rfl
  have b1 : a ≤ n := hB.1
  have b2 : f1 ≤ 1000 := hB.2.1
  have b3 : f2 ≤ 1000 := hB.2.2.1
  have b4 : hf ≤ 1 := hB.2.2.2
  have hn60 : n ≤ 60 := ht.2.1.1
  have hst := ht.2.2.1
  have hsg : (if a < n then s a else 0) < 65536 := sgN_lt hst a
  refine x_aload_n hC d_Program_readsSign_0 rfl rfl ?_
  refine x_getf hC kf_Program_14 p0 rfl d_Program_readsSign_1 ?_
  refine x_aload_n hC d_Program_readsSign_4 rfl rfl ?_
  refine x_getf hC kf_Program_43 p0 rfl d_Program_readsSign_5 ?_
  refine x_callV hC kv_Program_110 (c_Text_at (ht := ht) (hi := by omega)) ht.1 rfl rfl (by decide) rfl rfl rfl (Nat.le_of_ble_eq_true rfl) (by decide) d_Program_readsSign_8 (fun r9 F9 z9 hp9 => ?_)
  obtain ⟨rfl, h9b, h9c⟩ := hp9
  rw [h9b, h9c]
  clear h9b h9c F9 z9
  refine x_iload_n hC d_Program_readsSign_11 rfl rfl ?_
  refine x_icmpN_eq hC d_Program_readsSign_12 (tgt := 17) (by decide) (by omega) (by omega) (fun c_12 => ?_) (fun c_12 => ?_)
  · skip
    refine x_aload_n hC d_Program_readsSign_17 rfl rfl ?_
    refine x_dup hC d_Program_readsSign_18 rfl ?_
    refine x_getf hC kf_Program_43 p0 rfl d_Program_readsSign_19 ?_
    refine x_iconst hC d_Program_readsSign_22 (v := nI 1) (by decide) ?_
    refine x_iadd hC d_Program_readsSign_23 (v := (nI (a + 1))) (x_addN (by omega)) ?_
    refine x_putf hC kf_Program_43 p0 (Nat.le_of_ble_eq_true rfl) rfl rfl d_Program_readsSign_24 (fs1 := [.ref (g + 1), .ref (g + 3), .ref (g + 4), .ref (g + 5), .ref (g + 6), .int (nI (sc)), .int (nI (cc)), .int (nI (a + 1)), .int (nI (f1)), .int (nI (f2)), .int (nI (hf))]) rfl ?_
    generalize e1 : xup F (g) (.inl (4, [.ref (g + 1), .ref (g + 3), .ref (g + 4), .ref (g + 5), .ref (g + 6), .int (nI (sc)), .int (nI (cc)), .int (nI (a + 1)), .int (nI (f1)), .int (nI (f2)), .int (nI (hf))])) = F1
    have p0 : F1 (g) = some (.inl (4, [.ref (g + 1), .ref (g + 3), .ref (g + 4), .ref (g + 5), .ref (g + 6), .int (nI (sc)), .int (nI (cc)), .int (nI (a + 1)), .int (nI (f1)), .int (nI (f2)), .int (nI (hf))])) := by rw [← e1]; exact xup_eq
    have ht : xTx F1 (g + 1) (60) (n) (s) := xTx_fr ht (fun a9 q1 q2 => by rw [← e1]; exact xup_ne (by omega))
    have hag : ∀ a9 : Nat, (a9 < g ∨ g + 1 ≤ a9) → F1 a9 = F a9 := fun a9 q0 => by rw [← e1]; exact (xup_ne (by omega)).trans (hag a9 q0)
    refine x_iconst hC d_Program_readsSign_27 (v := nI 1) (by decide) ?_
    refine hret _ _ _ _ _ _ _ d_Program_readsSign_28 (by decide) (by decide) rfl ?_
    have e9 : pSign n s c (a, f1, f2, hf) = (true, (a + 1, f1, f2, hf)) := if_pos c_12
    exact ⟨congrArg (fun q => some (Value.int q)) (xb_t1 (congrArg Prod.fst e9)), rfl, by rw [e9]; exact p0, hag⟩
  · skip
    refine x_iconst hC d_Program_readsSign_15 (v := nI 0) (by decide) ?_
    refine hret _ _ _ _ _ _ _ d_Program_readsSign_16 (by decide) (by decide) rfl ?_
    have e9 : pSign n s c (a, f1, f2, hf) = (false, (a, f1, f2, hf)) := if_neg c_12
    exact ⟨congrArg (fun q => some (Value.int q)) (xb_f0 (fun h9 => by rw [e9] at h9; cases h9)), rfl, by rw [e9]; exact p0, hag⟩

theorem d_Program_readsSymbol_0 : decode prog_8_method_7_code 0 = .ok (.aload_n 0, 1) := by decide +kernel
theorem d_Program_readsSymbol_1 : decode prog_8_method_7_code 1 = .ok (.getfield 14, 3) := by decide +kernel
theorem d_Program_readsSymbol_4 : decode prog_8_method_7_code 4 = .ok (.aload_n 0, 1) := by decide +kernel
theorem d_Program_readsSymbol_5 : decode prog_8_method_7_code 5 = .ok (.getfield 43, 3) := by decide +kernel
theorem d_Program_readsSymbol_8 : decode prog_8_method_7_code 8 = .ok (.invokevirtual 110, 3) := by decide +kernel
theorem d_Program_readsSymbol_11 : decode prog_8_method_7_code 11 = .ok (.invokestatic 112, 3) := by decide +kernel
theorem d_Program_readsSymbol_14 : decode prog_8_method_7_code 14 = .ok (.ifCond .ne 5, 3) := by decide +kernel
theorem d_Program_readsSymbol_17 : decode prog_8_method_7_code 17 = .ok (.iconst 0, 1) := by decide +kernel
theorem d_Program_readsSymbol_18 : decode prog_8_method_7_code 18 = .ok (.ireturn, 1) := by decide +kernel
theorem d_Program_readsSymbol_19 : decode prog_8_method_7_code 19 = .ok (.aload_n 0, 1) := by decide +kernel
theorem d_Program_readsSymbol_20 : decode prog_8_method_7_code 20 = .ok (.aload_n 0, 1) := by decide +kernel
theorem d_Program_readsSymbol_21 : decode prog_8_method_7_code 21 = .ok (.getfield 14, 3) := by decide +kernel
theorem d_Program_readsSymbol_24 : decode prog_8_method_7_code 24 = .ok (.aload_n 0, 1) := by decide +kernel
theorem d_Program_readsSymbol_25 : decode prog_8_method_7_code 25 = .ok (.getfield 43, 3) := by decide +kernel
theorem d_Program_readsSymbol_28 : decode prog_8_method_7_code 28 = .ok (.invokevirtual 110, 3) := by decide +kernel
theorem d_Program_readsSymbol_31 : decode prog_8_method_7_code 31 = .ok (.invokevirtual 115, 3) := by decide +kernel
theorem d_Program_readsSymbol_34 : decode prog_8_method_7_code 34 = .ok (.aload_n 0, 1) := by decide +kernel
theorem d_Program_readsSymbol_35 : decode prog_8_method_7_code 35 = .ok (.dup, 1) := by decide +kernel
theorem d_Program_readsSymbol_36 : decode prog_8_method_7_code 36 = .ok (.getfield 43, 3) := by decide +kernel
theorem d_Program_readsSymbol_39 : decode prog_8_method_7_code 39 = .ok (.iconst 1, 1) := by decide +kernel
theorem d_Program_readsSymbol_40 : decode prog_8_method_7_code 40 = .ok (.iadd, 1) := by decide +kernel
theorem d_Program_readsSymbol_41 : decode prog_8_method_7_code 41 = .ok (.putfield 43, 3) := by decide +kernel
theorem d_Program_readsSymbol_44 : decode prog_8_method_7_code 44 = .ok (.iconst 1, 1) := by decide +kernel
theorem d_Program_readsSymbol_45 : decode prog_8_method_7_code 45 = .ok (.ireturn, 1) := by decide +kernel
set_option maxHeartbeats 4000000 in
set_option maxRecDepth 20000 in
theorem c_Program_readsSymbol {P : xP} {F : xF} {z : Nat} {g : Nat} {sc : Nat} {cc : Nat} {a : Nat} {f1 : Nat} {f2 : Nat} {hf : Nat} {n : Nat} {s : Nat → Nat} (p0 : F (g) = some (.inl (4, [.ref (g + 1), .ref (g + 3), .ref (g + 4), .ref (g + 5), .ref (g + 6), .int (nI (sc)), .int (nI (cc)), .int (nI (a)), .int (nI (f1)), .int (nI (f2)), .int (nI (hf))]))) (ht : xTx F (g + 1) (60) (n) (s)) (hB : pB n (a, f1, f2, hf)) : xM P xy_Program_readsSymbol [.ref g] F (z) 0 0 (fun r9 F9 z9 => r9 = some (.int (xb ((pSym n s (a, f1, f2, hf)).1 = true))) ∧ z9 = z ∧ F9 (g) = some (.inl (4, [.ref (g + 1), .ref (g + 3), .ref (g + 4), .ref (g + 5), .ref (g + 6), .int (nI (sc)), .int (nI (cc)), .int (nI (((pSym n s (a, f1, f2, hf)).2).1)), .int (nI (((pSym n s (a, f1, f2, hf)).2).2.1)), .int (nI (((pSym n s (a, f1, f2, hf)).2).2.2.1)), .int (nI (((pSym n s (a, f1, f2, hf)).2).2.2.2))])) ∧ (∀ a9 : Nat, (a9 < g ∨ g + 1 ≤ a9) → F9 a9 = F a9)) := by
  refine xM_i .boolean rfl (Nat.le_of_ble_eq_true rfl) (L0 := [some (.ref g)]) rfl rfl fun Θ hC hret => ?_
  have hag : ∀ a9 : Nat, (a9 < g ∨ g + 1 ≤ a9) → F a9 = F a9 := fun a9 _ => rfl
  have b1 : a ≤ n := hB.1
  have b2 : f1 ≤ 1000 := hB.2.1
  have b3 : f2 ≤ 1000 := hB.2.2.1
  have b4 : hf ≤ 1 := hB.2.2.2
  have hn60 : n ≤ 60 := ht.2.1.1
  have hst := ht.2.2.1
  have hsg : (if a < n then s a else 0) < 65536 := sgN_lt hst a
  refine x_aload_n hC d_Program_readsSymbol_0 rfl rfl ?_
  refine x_getf hC kf_Program_14 p0 rfl d_Program_readsSymbol_1 ?_
  refine x_aload_n hC d_Program_readsSymbol_4 rfl rfl ?_
  refine x_getf hC kf_Program_43 p0 rfl d_Program_readsSymbol_5 ?_
  refine x_callV hC kv_Program_110 (c_Text_at (ht := ht) (hi := by omega)) ht.1 rfl rfl (by decide) rfl rfl rfl (Nat.le_of_ble_eq_true rfl) (by decide) d_Program_readsSymbol_8 (fun r9 F9 z9 hp9 => ?_)
  obtain ⟨rfl, h9b, h9c⟩ := hp9
  rw [h9b, h9c]
  clear h9b h9c F9 z9
  refine x_callS hC ks_Program_112 (c_MessageCoder_isSymbol (hcb := by omega)) (by decide) rfl rfl rfl (Nat.le_of_ble_eq_true rfl) (by decide) d_Program_readsSymbol_11 (fun r9 F9 z9 hp9 => ?_)
  obtain ⟨rfl, h9b, h9c⟩ := hp9
  rw [h9b, h9c]
  clear h9b h9c F9 z9
  refine x_ifB_ne hC d_Program_readsSymbol_14 (tgt := 19) (by decide) (fun c_14 => ?_) (fun c_14 => ?_)
  · skip
    refine x_aload_n hC d_Program_readsSymbol_19 rfl rfl ?_
    refine x_aload_n hC d_Program_readsSymbol_20 rfl rfl ?_
    refine x_getf hC kf_Program_14 p0 rfl d_Program_readsSymbol_21 ?_
    refine x_aload_n hC d_Program_readsSymbol_24 rfl rfl ?_
    refine x_getf hC kf_Program_43 p0 rfl d_Program_readsSymbol_25 ?_
    refine x_callV hC kv_Program_110 (c_Text_at (ht := ht) (hi := by omega)) ht.1 rfl rfl (by decide) rfl rfl rfl (Nat.le_of_ble_eq_true rfl) (by decide) d_Program_readsSymbol_28 (fun r9 F9 z9 hp9 => ?_)
    obtain ⟨rfl, h9b, h9c⟩ := hp9
    rw [h9b, h9c]
    clear h9b h9c F9 z9
    refine x_callV hC kv_Program_115 (c_Program_give (p0 := p0) (h1 := by omega)) p0 rfl rfl (by decide) rfl rfl rfl (Nat.le_of_ble_eq_true rfl) (by decide) d_Program_readsSymbol_31 (fun r9 F9 z9 hp9 => ?_)
    obtain ⟨rfl, h9c, j0, hag9⟩ := hp9
    rw [h9c]
    clear h9c z9
    generalize F9 = F1 at *
    have ht : xTx F1 (g + 1) (60) (n) (s) := xTx_fr ht (fun a9 q1 q2 => hag9 a9 (by omega))
    have p0 : F1 (g) = some (.inl (4, [.ref (g + 1), .ref (g + 3), .ref (g + 4), .ref (g + 5), .ref (g + 6), .int (nI (sc)), .int (nI (cc)), .int (nI (a)), .int (nI ((gv3 f1 f2 hf (if a < n then s a else 0)).1)), .int (nI ((gv3 f1 f2 hf (if a < n then s a else 0)).2.1)), .int (nI ((gv3 f1 f2 hf (if a < n then s a else 0)).2.2))])) := j0
    have hag : ∀ a9 : Nat, (a9 < g ∨ g + 1 ≤ a9) → F1 a9 = F a9 := fun a9 q0 => (hag9 a9 (by omega)).trans (hag a9 q0)
    have hg_31 := hag9
    clear hag9
    refine x_aload_n hC d_Program_readsSymbol_34 rfl rfl ?_
    refine x_dup hC d_Program_readsSymbol_35 rfl ?_
    refine x_getf hC kf_Program_43 p0 rfl d_Program_readsSymbol_36 ?_
    refine x_iconst hC d_Program_readsSymbol_39 (v := nI 1) (by decide) ?_
    refine x_iadd hC d_Program_readsSymbol_40 (v := (nI (a + 1))) (x_addN (by omega)) ?_
    refine x_putf hC kf_Program_43 p0 (Nat.le_of_ble_eq_true rfl) rfl rfl d_Program_readsSymbol_41 (fs1 := [.ref (g + 1), .ref (g + 3), .ref (g + 4), .ref (g + 5), .ref (g + 6), .int (nI (sc)), .int (nI (cc)), .int (nI (a + 1)), .int (nI ((gv3 f1 f2 hf (if a < n then s a else 0)).1)), .int (nI ((gv3 f1 f2 hf (if a < n then s a else 0)).2.1)), .int (nI ((gv3 f1 f2 hf (if a < n then s a else 0)).2.2))]) rfl ?_
    generalize e2 : xup F1 (g) (.inl (4, [.ref (g + 1), .ref (g + 3), .ref (g + 4), .ref (g + 5), .ref (g + 6), .int (nI (sc)), .int (nI (cc)), .int (nI (a + 1)), .int (nI ((gv3 f1 f2 hf (if a < n then s a else 0)).1)), .int (nI ((gv3 f1 f2 hf (if a < n then s a else 0)).2.1)), .int (nI ((gv3 f1 f2 hf (if a < n then s a else 0)).2.2))])) = F2
    have ht : xTx F2 (g + 1) (60) (n) (s) := xTx_fr ht (fun a9 q1 q2 => by rw [← e2]; exact xup_ne (by omega))
    have p0 : F2 (g) = some (.inl (4, [.ref (g + 1), .ref (g + 3), .ref (g + 4), .ref (g + 5), .ref (g + 6), .int (nI (sc)), .int (nI (cc)), .int (nI (a + 1)), .int (nI ((gv3 f1 f2 hf (if a < n then s a else 0)).1)), .int (nI ((gv3 f1 f2 hf (if a < n then s a else 0)).2.1)), .int (nI ((gv3 f1 f2 hf (if a < n then s a else 0)).2.2))])) := by rw [← e2]; exact xup_eq
    have hag : ∀ a9 : Nat, (a9 < g ∨ g + 1 ≤ a9) → F2 a9 = F a9 := fun a9 q0 => by rw [← e2]; exact (xup_ne (by omega)).trans (hag a9 q0)
    refine x_iconst hC d_Program_readsSymbol_44 (v := nI 1) (by decide) ?_
    refine hret _ _ _ _ _ _ _ d_Program_readsSymbol_45 (by decide) (by decide) rfl ?_
    have e9 : pSym n s (a, f1, f2, hf) = (true, pAt (pGv (a, f1, f2, hf) (sgN n s a)) (a + 1)) := if_pos c_14
    exact ⟨congrArg (fun q => some (Value.int q)) (xb_t1 (congrArg Prod.fst e9)), rfl, by rw [e9]; exact p0, hag⟩
  · skip
    refine x_iconst hC d_Program_readsSymbol_17 (v := nI 0) (by decide) ?_
    refine hret _ _ _ _ _ _ _ d_Program_readsSymbol_18 (by decide) (by decide) rfl ?_
    have e9 : pSym n s (a, f1, f2, hf) = (false, (a, f1, f2, hf)) := if_neg c_14
    exact ⟨congrArg (fun q => some (Value.int q)) (xb_f0 (fun h9 => by rw [e9] at h9; cases h9)), rfl, by rw [e9]; exact p0, hag⟩

theorem d_Program_readsSymbols_0 : decode prog_8_method_8_code 0 = .ok (.aload_n 0, 1) := by decide +kernel
theorem d_Program_readsSymbols_1 : decode prog_8_method_8_code 1 = .ok (.getfield 43, 3) := by decide +kernel
theorem d_Program_readsSymbols_4 : decode prog_8_method_8_code 4 = .ok (.istore_n 1, 1) := by decide +kernel
theorem d_Program_readsSymbols_5 : decode prog_8_method_8_code 5 = .ok (.aload_n 0, 1) := by decide +kernel
theorem d_Program_readsSymbols_6 : decode prog_8_method_8_code 6 = .ok (.getfield 43, 3) := by decide +kernel
theorem d_Program_readsSymbols_9 : decode prog_8_method_8_code 9 = .ok (.aload_n 0, 1) := by decide +kernel
theorem d_Program_readsSymbols_10 : decode prog_8_method_8_code 10 = .ok (.getfield 14, 3) := by decide +kernel
theorem d_Program_readsSymbols_13 : decode prog_8_method_8_code 13 = .ok (.getfield 50, 3) := by decide +kernel
theorem d_Program_readsSymbols_16 : decode prog_8_method_8_code 16 = .ok (.if_icmp .ge 33, 3) := by decide +kernel
theorem d_Program_readsSymbols_19 : decode prog_8_method_8_code 19 = .ok (.aload_n 0, 1) := by decide +kernel
theorem d_Program_readsSymbols_20 : decode prog_8_method_8_code 20 = .ok (.getfield 14, 3) := by decide +kernel
theorem d_Program_readsSymbols_23 : decode prog_8_method_8_code 23 = .ok (.aload_n 0, 1) := by decide +kernel
theorem d_Program_readsSymbols_24 : decode prog_8_method_8_code 24 = .ok (.getfield 43, 3) := by decide +kernel
theorem d_Program_readsSymbols_27 : decode prog_8_method_8_code 27 = .ok (.invokevirtual 110, 3) := by decide +kernel
theorem d_Program_readsSymbols_30 : decode prog_8_method_8_code 30 = .ok (.invokestatic 112, 3) := by decide +kernel
theorem d_Program_readsSymbols_33 : decode prog_8_method_8_code 33 = .ok (.ifCond .eq 16, 3) := by decide +kernel
theorem d_Program_readsSymbols_36 : decode prog_8_method_8_code 36 = .ok (.aload_n 0, 1) := by decide +kernel
theorem d_Program_readsSymbols_37 : decode prog_8_method_8_code 37 = .ok (.dup, 1) := by decide +kernel
theorem d_Program_readsSymbols_38 : decode prog_8_method_8_code 38 = .ok (.getfield 43, 3) := by decide +kernel
theorem d_Program_readsSymbols_41 : decode prog_8_method_8_code 41 = .ok (.iconst 1, 1) := by decide +kernel
theorem d_Program_readsSymbols_42 : decode prog_8_method_8_code 42 = .ok (.iadd, 1) := by decide +kernel
theorem d_Program_readsSymbols_43 : decode prog_8_method_8_code 43 = .ok (.putfield 43, 3) := by decide +kernel
theorem d_Program_readsSymbols_46 : decode prog_8_method_8_code 46 = .ok (.goto (-41), 3) := by decide +kernel
theorem d_Program_readsSymbols_49 : decode prog_8_method_8_code 49 = .ok (.aload_n 0, 1) := by decide +kernel
theorem d_Program_readsSymbols_50 : decode prog_8_method_8_code 50 = .ok (.iload_n 1, 1) := by decide +kernel
theorem d_Program_readsSymbols_51 : decode prog_8_method_8_code 51 = .ok (.invokevirtual 115, 3) := by decide +kernel
theorem d_Program_readsSymbols_54 : decode prog_8_method_8_code 54 = .ok (.aload_n 0, 1) := by decide +kernel
theorem d_Program_readsSymbols_55 : decode prog_8_method_8_code 55 = .ok (.aload_n 0, 1) := by decide +kernel
theorem d_Program_readsSymbols_56 : decode prog_8_method_8_code 56 = .ok (.getfield 43, 3) := by decide +kernel
theorem d_Program_readsSymbols_59 : decode prog_8_method_8_code 59 = .ok (.invokevirtual 115, 3) := by decide +kernel
theorem d_Program_readsSymbols_62 : decode prog_8_method_8_code 62 = .ok (.aload_n 0, 1) := by decide +kernel
theorem d_Program_readsSymbols_63 : decode prog_8_method_8_code 63 = .ok (.getfield 43, 3) := by decide +kernel
theorem d_Program_readsSymbols_66 : decode prog_8_method_8_code 66 = .ok (.iload_n 1, 1) := by decide +kernel
theorem d_Program_readsSymbols_67 : decode prog_8_method_8_code 67 = .ok (.if_icmp .le 7, 3) := by decide +kernel
theorem d_Program_readsSymbols_70 : decode prog_8_method_8_code 70 = .ok (.iconst 1, 1) := by decide +kernel
theorem d_Program_readsSymbols_71 : decode prog_8_method_8_code 71 = .ok (.goto 4, 3) := by decide +kernel
theorem d_Program_readsSymbols_74 : decode prog_8_method_8_code 74 = .ok (.iconst 0, 1) := by decide +kernel
theorem d_Program_readsSymbols_75 : decode prog_8_method_8_code 75 = .ok (.ireturn, 1) := by decide +kernel
set_option maxHeartbeats 4000000 in
set_option maxRecDepth 20000 in
theorem c_Program_readsSymbols {P : xP} {F : xF} {z : Nat} {g : Nat} {sc : Nat} {cc : Nat} {a : Nat} {f1 : Nat} {f2 : Nat} {hf : Nat} {n : Nat} {s : Nat → Nat} (p0 : F (g) = some (.inl (4, [.ref (g + 1), .ref (g + 3), .ref (g + 4), .ref (g + 5), .ref (g + 6), .int (nI (sc)), .int (nI (cc)), .int (nI (a)), .int (nI (f1)), .int (nI (f2)), .int (nI (hf))]))) (ht : xTx F (g + 1) (60) (n) (s)) (hB : pB n (a, f1, f2, hf)) : xM P xy_Program_readsSymbols [.ref g] F (z) 0 0 (fun r9 F9 z9 => r9 = some (.int (xb ((pSyms n s (a, f1, f2, hf)).1 = true))) ∧ z9 = z ∧ F9 (g) = some (.inl (4, [.ref (g + 1), .ref (g + 3), .ref (g + 4), .ref (g + 5), .ref (g + 6), .int (nI (sc)), .int (nI (cc)), .int (nI (((pSyms n s (a, f1, f2, hf)).2).1)), .int (nI (((pSyms n s (a, f1, f2, hf)).2).2.1)), .int (nI (((pSyms n s (a, f1, f2, hf)).2).2.2.1)), .int (nI (((pSyms n s (a, f1, f2, hf)).2).2.2.2))])) ∧ (∀ a9 : Nat, (a9 < g ∨ g + 1 ≤ a9) → F9 a9 = F a9)) := by
  refine xM_i .boolean rfl (Nat.le_of_ble_eq_true rfl) (L0 := [some (.ref g), none]) rfl rfl fun Θ hC hret => ?_
  have hag : ∀ a9 : Nat, (a9 < g ∨ g + 1 ≤ a9) → F a9 = F a9 := fun a9 _ => rfl
  have b1 : a ≤ n := hB.1
  have b2 : f1 ≤ 1000 := hB.2.1
  have b3 : f2 ≤ 1000 := hB.2.2.1
  have b4 : hf ≤ 1 := hB.2.2.2
  have hn60 : n ≤ 60 := ht.2.1.1
  have hst := ht.2.2.1
  refine x_aload_n hC d_Program_readsSymbols_0 rfl rfl ?_
  refine x_getf hC kf_Program_43 p0 rfl d_Program_readsSymbols_1 ?_
  refine x_istore_n hC d_Program_readsSymbols_4 rfl (Nat.le_of_ble_eq_true rfl) (L1 := [some (.ref g), some (.int (nI (a)))]) rfl ?_
  have loop_5 : ∀ (m9 : Nat) (Fh5 : xF) (e : Nat), (Fh5 (g) = some (.inl (4, [.ref (g + 1), .ref (g + 3), .ref (g + 4), .ref (g + 5), .ref (g + 6), .int (nI (sc)), .int (nI (cc)), .int (nI (e)), .int (nI (f1)), .int (nI (f2)), .int (nI (hf))]))) → (xTx Fh5 (g + 1) (60) (n) (s)) → (∀ a9 : Nat, (a9 < g ∨ g + 1 ≤ a9) → Fh5 a9 = F a9) → (a ≤ e ∧ e ≤ n) → (pEnd n s a (e - a) = e) → (n - e < m9) → xX P Θ 5 [some (.ref g), some (.int (nI (a)))] [] Fh5 (z) 0 0 := by
    intro m9
    induction m9 with
    | zero => intros; omega
    | succ m9 ih_5 =>
      intro Fh5 e p0 ht hag he ke hm_5
      refine x_aload_n hC d_Program_readsSymbols_5 rfl rfl ?_
      refine x_getf hC kf_Program_43 p0 rfl d_Program_readsSymbols_6 ?_
      refine x_aload_n hC d_Program_readsSymbols_9 rfl rfl ?_
      refine x_getf hC kf_Program_14 p0 rfl d_Program_readsSymbols_10 ?_
      refine x_getf hC kf_Program_50 ht.1 rfl d_Program_readsSymbols_13 ?_
      refine x_icmpN_ge hC d_Program_readsSymbols_16 (tgt := 49) (by decide) (by omega) (by omega) (fun c_16 => ?_) (fun c_16 => ?_)
      · skip
        have hno : ¬ (e < n ∧ isSy (sgN n s e)) := by first | exact fun q9 => absurd c_16 (by omega) | exact fun q9 => c_33 q9.2
        refine x_aload_n hC d_Program_readsSymbols_49 rfl rfl ?_
        refine x_iload_n hC d_Program_readsSymbols_50 rfl rfl ?_
        refine x_callV hC kv_Program_115 (c_Program_give (p0 := p0) (h1 := by omega)) p0 rfl rfl (by decide) rfl rfl rfl (Nat.le_of_ble_eq_true rfl) (by decide) d_Program_readsSymbols_51 (fun r9 F9 z9 hp9 => ?_)
        obtain ⟨rfl, h9c, j0, hag9⟩ := hp9
        rw [h9c]
        clear h9c z9
        generalize F9 = F1 at *
        have ht : xTx F1 (g + 1) (60) (n) (s) := xTx_fr ht (fun a9 q1 q2 => hag9 a9 (by omega))
        have p0 : F1 (g) = some (.inl (4, [.ref (g + 1), .ref (g + 3), .ref (g + 4), .ref (g + 5), .ref (g + 6), .int (nI (sc)), .int (nI (cc)), .int (nI (e)), .int (nI ((gv3 f1 f2 hf a).1)), .int (nI ((gv3 f1 f2 hf a).2.1)), .int (nI ((gv3 f1 f2 hf a).2.2))])) := j0
        have hag : ∀ a9 : Nat, (a9 < g ∨ g + 1 ≤ a9) → F1 a9 = F a9 := fun a9 q0 => (hag9 a9 (by omega)).trans (hag a9 q0)
        have hg_51 := hag9
        clear hag9
        refine x_aload_n hC d_Program_readsSymbols_54 rfl rfl ?_
        refine x_aload_n hC d_Program_readsSymbols_55 rfl rfl ?_
        refine x_getf hC kf_Program_43 p0 rfl d_Program_readsSymbols_56 ?_
        refine x_callV hC kv_Program_115 (c_Program_give (p0 := p0) (h1 := by unfold gv3; split; exact Nat.le_refl 1; exact b4)) p0 rfl rfl (by decide) rfl rfl rfl (Nat.le_of_ble_eq_true rfl) (by decide) d_Program_readsSymbols_59 (fun r9 F9 z9 hp9 => ?_)
        obtain ⟨rfl, h9c, j0, hag9⟩ := hp9
        rw [h9c]
        clear h9c z9
        generalize F9 = F2 at *
        have ht : xTx F2 (g + 1) (60) (n) (s) := xTx_fr ht (fun a9 q1 q2 => hag9 a9 (by omega))
        have p0 : F2 (g) = some (.inl (4, [.ref (g + 1), .ref (g + 3), .ref (g + 4), .ref (g + 5), .ref (g + 6), .int (nI (sc)), .int (nI (cc)), .int (nI (e)), .int (nI ((gv3 ((gv3 f1 f2 hf a).1) ((gv3 f1 f2 hf a).2.1) ((gv3 f1 f2 hf a).2.2) e).1)), .int (nI ((gv3 ((gv3 f1 f2 hf a).1) ((gv3 f1 f2 hf a).2.1) ((gv3 f1 f2 hf a).2.2) e).2.1)), .int (nI ((gv3 ((gv3 f1 f2 hf a).1) ((gv3 f1 f2 hf a).2.1) ((gv3 f1 f2 hf a).2.2) e).2.2))])) := j0
        have hag : ∀ a9 : Nat, (a9 < g ∨ g + 1 ≤ a9) → F2 a9 = F a9 := fun a9 q0 => (hag9 a9 (by omega)).trans (hag a9 q0)
        have hg_59 := hag9
        clear hag9
        refine x_aload_n hC d_Program_readsSymbols_62 rfl rfl ?_
        refine x_getf hC kf_Program_43 p0 rfl d_Program_readsSymbols_63 ?_
        refine x_iload_n hC d_Program_readsSymbols_66 rfl rfl ?_
        refine x_icmpN_le hC d_Program_readsSymbols_67 (tgt := 74) (by decide) (by omega) (by omega) (fun c_67 => ?_) (fun c_67 => ?_)
        · skip
          refine x_iconst hC d_Program_readsSymbols_74 (v := nI 0) (by decide) ?_
          refine hret _ _ _ _ _ _ _ d_Program_readsSymbols_75 (by decide) (by decide) rfl ?_
          have hen := pEnd_stop (n := n) (s := s) (a := a) (k := e - a) (by rw [ke]; exact hno) (n - (e - a))
          rw [show e - a + (n - (e - a)) = n by omega, ke] at hen
          rw [← hen] at p0
          exact ⟨congrArg (fun q => some (Value.int q)) (xb_f0 (fun h9 => by have h8 := of_decide_eq_true h9; have h8 : a < pEnd n s a n := h8; rw [hen] at h8; omega)), rfl, p0, hag⟩
        · skip
          refine x_iconst hC d_Program_readsSymbols_70 (v := nI 1) (by decide) ?_
          refine x_goto hC d_Program_readsSymbols_71 (tgt := 75) (by decide) ?_
          refine hret _ _ _ _ _ _ _ d_Program_readsSymbols_75 (by decide) (by decide) rfl ?_
          have hen := pEnd_stop (n := n) (s := s) (a := a) (k := e - a) (by rw [ke]; exact hno) (n - (e - a))
          rw [show e - a + (n - (e - a)) = n by omega, ke] at hen
          rw [← hen] at p0
          exact ⟨congrArg (fun q => some (Value.int q)) (xb_t1 (decide_eq_true (by show a < pEnd n s a n; rw [hen]; exact c_67))), rfl, p0, hag⟩
      · skip
        refine x_aload_n hC d_Program_readsSymbols_19 rfl rfl ?_
        refine x_getf hC kf_Program_14 p0 rfl d_Program_readsSymbols_20 ?_
        refine x_aload_n hC d_Program_readsSymbols_23 rfl rfl ?_
        refine x_getf hC kf_Program_43 p0 rfl d_Program_readsSymbols_24 ?_
        refine x_callV hC kv_Program_110 (c_Text_at (ht := ht) (hi := by omega)) ht.1 rfl rfl (by decide) rfl rfl rfl (Nat.le_of_ble_eq_true rfl) (by decide) d_Program_readsSymbols_27 (fun r9 F9 z9 hp9 => ?_)
        obtain ⟨rfl, h9b, h9c⟩ := hp9
        rw [h9b, h9c]
        clear h9b h9c F9 z9
        have hsg : (if e < n then s e else 0) < 65536 := sgN_lt hst e
        refine x_callS hC ks_Program_112 (c_MessageCoder_isSymbol (hcb := by omega)) (by decide) rfl rfl rfl (Nat.le_of_ble_eq_true rfl) (by decide) d_Program_readsSymbols_30 (fun r9 F9 z9 hp9 => ?_)
        obtain ⟨rfl, h9b, h9c⟩ := hp9
        rw [h9b, h9c]
        clear h9b h9c F9 z9
        refine x_ifB_eq hC d_Program_readsSymbols_33 (tgt := 49) (by decide) (fun c_33 => ?_) (fun c_33 => ?_)
        · skip
          have hno : ¬ (e < n ∧ isSy (sgN n s e)) := by first | exact fun q9 => absurd c_16 (by omega) | exact fun q9 => c_33 q9.2
          refine x_aload_n hC d_Program_readsSymbols_49 rfl rfl ?_
          refine x_iload_n hC d_Program_readsSymbols_50 rfl rfl ?_
          refine x_callV hC kv_Program_115 (c_Program_give (p0 := p0) (h1 := by omega)) p0 rfl rfl (by decide) rfl rfl rfl (Nat.le_of_ble_eq_true rfl) (by decide) d_Program_readsSymbols_51 (fun r9 F9 z9 hp9 => ?_)
          obtain ⟨rfl, h9c, j0, hag9⟩ := hp9
          rw [h9c]
          clear h9c z9
          generalize F9 = F3 at *
          have ht : xTx F3 (g + 1) (60) (n) (s) := xTx_fr ht (fun a9 q1 q2 => hag9 a9 (by omega))
          have p0 : F3 (g) = some (.inl (4, [.ref (g + 1), .ref (g + 3), .ref (g + 4), .ref (g + 5), .ref (g + 6), .int (nI (sc)), .int (nI (cc)), .int (nI (e)), .int (nI ((gv3 f1 f2 hf a).1)), .int (nI ((gv3 f1 f2 hf a).2.1)), .int (nI ((gv3 f1 f2 hf a).2.2))])) := j0
          have hag : ∀ a9 : Nat, (a9 < g ∨ g + 1 ≤ a9) → F3 a9 = F a9 := fun a9 q0 => (hag9 a9 (by omega)).trans (hag a9 q0)
          have hg_51 := hag9
          clear hag9
          refine x_aload_n hC d_Program_readsSymbols_54 rfl rfl ?_
          refine x_aload_n hC d_Program_readsSymbols_55 rfl rfl ?_
          refine x_getf hC kf_Program_43 p0 rfl d_Program_readsSymbols_56 ?_
          refine x_callV hC kv_Program_115 (c_Program_give (p0 := p0) (h1 := by unfold gv3; split; exact Nat.le_refl 1; exact b4)) p0 rfl rfl (by decide) rfl rfl rfl (Nat.le_of_ble_eq_true rfl) (by decide) d_Program_readsSymbols_59 (fun r9 F9 z9 hp9 => ?_)
          obtain ⟨rfl, h9c, j0, hag9⟩ := hp9
          rw [h9c]
          clear h9c z9
          generalize F9 = F4 at *
          have ht : xTx F4 (g + 1) (60) (n) (s) := xTx_fr ht (fun a9 q1 q2 => hag9 a9 (by omega))
          have p0 : F4 (g) = some (.inl (4, [.ref (g + 1), .ref (g + 3), .ref (g + 4), .ref (g + 5), .ref (g + 6), .int (nI (sc)), .int (nI (cc)), .int (nI (e)), .int (nI ((gv3 ((gv3 f1 f2 hf a).1) ((gv3 f1 f2 hf a).2.1) ((gv3 f1 f2 hf a).2.2) e).1)), .int (nI ((gv3 ((gv3 f1 f2 hf a).1) ((gv3 f1 f2 hf a).2.1) ((gv3 f1 f2 hf a).2.2) e).2.1)), .int (nI ((gv3 ((gv3 f1 f2 hf a).1) ((gv3 f1 f2 hf a).2.1) ((gv3 f1 f2 hf a).2.2) e).2.2))])) := j0
          have hag : ∀ a9 : Nat, (a9 < g ∨ g + 1 ≤ a9) → F4 a9 = F a9 := fun a9 q0 => (hag9 a9 (by omega)).trans (hag a9 q0)
          have hg_59 := hag9
          clear hag9
          refine x_aload_n hC d_Program_readsSymbols_62 rfl rfl ?_
          refine x_getf hC kf_Program_43 p0 rfl d_Program_readsSymbols_63 ?_
          refine x_iload_n hC d_Program_readsSymbols_66 rfl rfl ?_
          refine x_icmpN_le hC d_Program_readsSymbols_67 (tgt := 74) (by decide) (by omega) (by omega) (fun c_67 => ?_) (fun c_67 => ?_)
          · skip
            refine x_iconst hC d_Program_readsSymbols_74 (v := nI 0) (by decide) ?_
            refine hret _ _ _ _ _ _ _ d_Program_readsSymbols_75 (by decide) (by decide) rfl ?_
            have hen := pEnd_stop (n := n) (s := s) (a := a) (k := e - a) (by rw [ke]; exact hno) (n - (e - a))
            rw [show e - a + (n - (e - a)) = n by omega, ke] at hen
            rw [← hen] at p0
            exact ⟨congrArg (fun q => some (Value.int q)) (xb_f0 (fun h9 => by have h8 := of_decide_eq_true h9; have h8 : a < pEnd n s a n := h8; rw [hen] at h8; omega)), rfl, p0, hag⟩
          · skip
            refine x_iconst hC d_Program_readsSymbols_70 (v := nI 1) (by decide) ?_
            refine x_goto hC d_Program_readsSymbols_71 (tgt := 75) (by decide) ?_
            refine hret _ _ _ _ _ _ _ d_Program_readsSymbols_75 (by decide) (by decide) rfl ?_
            have hen := pEnd_stop (n := n) (s := s) (a := a) (k := e - a) (by rw [ke]; exact hno) (n - (e - a))
            rw [show e - a + (n - (e - a)) = n by omega, ke] at hen
            rw [← hen] at p0
            exact ⟨congrArg (fun q => some (Value.int q)) (xb_t1 (decide_eq_true (by show a < pEnd n s a n; rw [hen]; exact c_67))), rfl, p0, hag⟩
        · skip
          refine x_aload_n hC d_Program_readsSymbols_36 rfl rfl ?_
          refine x_dup hC d_Program_readsSymbols_37 rfl ?_
          refine x_getf hC kf_Program_43 p0 rfl d_Program_readsSymbols_38 ?_
          refine x_iconst hC d_Program_readsSymbols_41 (v := nI 1) (by decide) ?_
          refine x_iadd hC d_Program_readsSymbols_42 (v := (nI (e + 1))) (x_addN (by omega)) ?_
          refine x_putf hC kf_Program_43 p0 (Nat.le_of_ble_eq_true rfl) rfl rfl d_Program_readsSymbols_43 (fs1 := [.ref (g + 1), .ref (g + 3), .ref (g + 4), .ref (g + 5), .ref (g + 6), .int (nI (sc)), .int (nI (cc)), .int (nI (e + 1)), .int (nI (f1)), .int (nI (f2)), .int (nI (hf))]) rfl ?_
          generalize e5 : xup Fh5 (g) (.inl (4, [.ref (g + 1), .ref (g + 3), .ref (g + 4), .ref (g + 5), .ref (g + 6), .int (nI (sc)), .int (nI (cc)), .int (nI (e + 1)), .int (nI (f1)), .int (nI (f2)), .int (nI (hf))])) = F5
          have p0 : F5 (g) = some (.inl (4, [.ref (g + 1), .ref (g + 3), .ref (g + 4), .ref (g + 5), .ref (g + 6), .int (nI (sc)), .int (nI (cc)), .int (nI (e + 1)), .int (nI (f1)), .int (nI (f2)), .int (nI (hf))])) := by rw [← e5]; exact xup_eq
          have ht : xTx F5 (g + 1) (60) (n) (s) := xTx_fr ht (fun a9 q1 q2 => by rw [← e5]; exact xup_ne (by omega))
          have hag : ∀ a9 : Nat, (a9 < g ∨ g + 1 ≤ a9) → F5 a9 = F a9 := fun a9 q0 => by rw [← e5]; exact (xup_ne (by omega)).trans (hag a9 q0)
          refine x_goto hC d_Program_readsSymbols_46 (tgt := 5) (by decide) ?_
          exact ih_5 F5 (e + 1) p0 ht hag (by omega) (by rw [show e + 1 - a = (e - a) + 1 by omega, pEnd, ke, if_pos ⟨c_16, c_33⟩]) (by omega)
  exact loop_5 (n - a + 1) F (a) p0 ht hag (by omega) (by rw [Nat.sub_self]; rfl) (by omega)

theorem d_Program_readsNumber_0 : decode prog_8_method_9_code 0 = .ok (.aload_n 0, 1) := by decide +kernel
theorem d_Program_readsNumber_1 : decode prog_8_method_9_code 1 = .ok (.getfield 43, 3) := by decide +kernel
theorem d_Program_readsNumber_4 : decode prog_8_method_9_code 4 = .ok (.istore_n 2, 1) := by decide +kernel
theorem d_Program_readsNumber_5 : decode prog_8_method_9_code 5 = .ok (.iconst 0, 1) := by decide +kernel
theorem d_Program_readsNumber_6 : decode prog_8_method_9_code 6 = .ok (.istore_n 3, 1) := by decide +kernel
theorem d_Program_readsNumber_7 : decode prog_8_method_9_code 7 = .ok (.iconst 0, 1) := by decide +kernel
theorem d_Program_readsNumber_8 : decode prog_8_method_9_code 8 = .ok (.istore 4, 2) := by decide +kernel
theorem d_Program_readsNumber_10 : decode prog_8_method_9_code 10 = .ok (.iload 4, 2) := by decide +kernel
theorem d_Program_readsNumber_12 : decode prog_8_method_9_code 12 = .ok (.iload_n 1, 1) := by decide +kernel
theorem d_Program_readsNumber_13 : decode prog_8_method_9_code 13 = .ok (.if_icmp .ge 56, 3) := by decide +kernel
theorem d_Program_readsNumber_16 : decode prog_8_method_9_code 16 = .ok (.aload_n 0, 1) := by decide +kernel
theorem d_Program_readsNumber_17 : decode prog_8_method_9_code 17 = .ok (.getfield 14, 3) := by decide +kernel
theorem d_Program_readsNumber_20 : decode prog_8_method_9_code 20 = .ok (.aload_n 0, 1) := by decide +kernel
theorem d_Program_readsNumber_21 : decode prog_8_method_9_code 21 = .ok (.getfield 43, 3) := by decide +kernel
theorem d_Program_readsNumber_24 : decode prog_8_method_9_code 24 = .ok (.invokevirtual 110, 3) := by decide +kernel
theorem d_Program_readsNumber_27 : decode prog_8_method_9_code 27 = .ok (.invokestatic 118, 3) := by decide +kernel
theorem d_Program_readsNumber_30 : decode prog_8_method_9_code 30 = .ok (.ifCond .eq 39, 3) := by decide +kernel
theorem d_Program_readsNumber_33 : decode prog_8_method_9_code 33 = .ok (.iload_n 3, 1) := by decide +kernel
theorem d_Program_readsNumber_34 : decode prog_8_method_9_code 34 = .ok (.bipush 10, 2) := by decide +kernel
theorem d_Program_readsNumber_36 : decode prog_8_method_9_code 36 = .ok (.imul, 1) := by decide +kernel
theorem d_Program_readsNumber_37 : decode prog_8_method_9_code 37 = .ok (.aload_n 0, 1) := by decide +kernel
theorem d_Program_readsNumber_38 : decode prog_8_method_9_code 38 = .ok (.getfield 14, 3) := by decide +kernel
theorem d_Program_readsNumber_41 : decode prog_8_method_9_code 41 = .ok (.aload_n 0, 1) := by decide +kernel
theorem d_Program_readsNumber_42 : decode prog_8_method_9_code 42 = .ok (.getfield 43, 3) := by decide +kernel
theorem d_Program_readsNumber_45 : decode prog_8_method_9_code 45 = .ok (.invokevirtual 110, 3) := by decide +kernel
theorem d_Program_readsNumber_48 : decode prog_8_method_9_code 48 = .ok (.bipush 48, 2) := by decide +kernel
theorem d_Program_readsNumber_50 : decode prog_8_method_9_code 50 = .ok (.isub, 1) := by decide +kernel
theorem d_Program_readsNumber_51 : decode prog_8_method_9_code 51 = .ok (.iadd, 1) := by decide +kernel
theorem d_Program_readsNumber_52 : decode prog_8_method_9_code 52 = .ok (.istore_n 3, 1) := by decide +kernel
theorem d_Program_readsNumber_53 : decode prog_8_method_9_code 53 = .ok (.aload_n 0, 1) := by decide +kernel
theorem d_Program_readsNumber_54 : decode prog_8_method_9_code 54 = .ok (.dup, 1) := by decide +kernel
theorem d_Program_readsNumber_55 : decode prog_8_method_9_code 55 = .ok (.getfield 43, 3) := by decide +kernel
theorem d_Program_readsNumber_58 : decode prog_8_method_9_code 58 = .ok (.iconst 1, 1) := by decide +kernel
theorem d_Program_readsNumber_59 : decode prog_8_method_9_code 59 = .ok (.iadd, 1) := by decide +kernel
theorem d_Program_readsNumber_60 : decode prog_8_method_9_code 60 = .ok (.putfield 43, 3) := by decide +kernel
theorem d_Program_readsNumber_63 : decode prog_8_method_9_code 63 = .ok (.iinc 4 1, 3) := by decide +kernel
theorem d_Program_readsNumber_66 : decode prog_8_method_9_code 66 = .ok (.goto (-56), 3) := by decide +kernel
theorem d_Program_readsNumber_69 : decode prog_8_method_9_code 69 = .ok (.aload_n 0, 1) := by decide +kernel
theorem d_Program_readsNumber_70 : decode prog_8_method_9_code 70 = .ok (.iload_n 3, 1) := by decide +kernel
theorem d_Program_readsNumber_71 : decode prog_8_method_9_code 71 = .ok (.invokevirtual 115, 3) := by decide +kernel
theorem d_Program_readsNumber_74 : decode prog_8_method_9_code 74 = .ok (.aload_n 0, 1) := by decide +kernel
theorem d_Program_readsNumber_75 : decode prog_8_method_9_code 75 = .ok (.getfield 43, 3) := by decide +kernel
theorem d_Program_readsNumber_78 : decode prog_8_method_9_code 78 = .ok (.iload_n 2, 1) := by decide +kernel
theorem d_Program_readsNumber_79 : decode prog_8_method_9_code 79 = .ok (.if_icmp .le 7, 3) := by decide +kernel
theorem d_Program_readsNumber_82 : decode prog_8_method_9_code 82 = .ok (.iconst 1, 1) := by decide +kernel
theorem d_Program_readsNumber_83 : decode prog_8_method_9_code 83 = .ok (.goto 4, 3) := by decide +kernel
theorem d_Program_readsNumber_86 : decode prog_8_method_9_code 86 = .ok (.iconst 0, 1) := by decide +kernel
theorem d_Program_readsNumber_87 : decode prog_8_method_9_code 87 = .ok (.ireturn, 1) := by decide +kernel
set_option maxHeartbeats 4000000 in
set_option maxRecDepth 20000 in
theorem c_Program_readsNumber {P : xP} {F : xF} {z : Nat} {g : Nat} {sc : Nat} {cc : Nat} {a : Nat} {f1 : Nat} {f2 : Nat} {hf : Nat} {n : Nat} {s : Nat → Nat} {m : Nat} (p0 : F (g) = some (.inl (4, [.ref (g + 1), .ref (g + 3), .ref (g + 4), .ref (g + 5), .ref (g + 6), .int (nI (sc)), .int (nI (cc)), .int (nI (a)), .int (nI (f1)), .int (nI (f2)), .int (nI (hf))]))) (ht : xTx F (g + 1) (60) (n) (s)) (hB : pB n (a, f1, f2, hf)) (hm : m ≤ 3) : xM P xy_Program_readsNumber [.ref g, .int (nI (m))] F (z) 0 0 (fun r9 F9 z9 => r9 = some (.int (xb ((pNum n s m (a, f1, f2, hf)).1 = true))) ∧ z9 = z ∧ F9 (g) = some (.inl (4, [.ref (g + 1), .ref (g + 3), .ref (g + 4), .ref (g + 5), .ref (g + 6), .int (nI (sc)), .int (nI (cc)), .int (nI (((pNum n s m (a, f1, f2, hf)).2).1)), .int (nI (((pNum n s m (a, f1, f2, hf)).2).2.1)), .int (nI (((pNum n s m (a, f1, f2, hf)).2).2.2.1)), .int (nI (((pNum n s m (a, f1, f2, hf)).2).2.2.2))])) ∧ (∀ a9 : Nat, (a9 < g ∨ g + 1 ≤ a9) → F9 a9 = F a9)) := by
  refine xM_i .boolean rfl (Nat.le_of_ble_eq_true rfl) (L0 := [some (.ref g), some (.int (nI (m))), none, none, none]) rfl rfl fun Θ hC hret => ?_
  have hag : ∀ a9 : Nat, (a9 < g ∨ g + 1 ≤ a9) → F a9 = F a9 := fun a9 _ => rfl
  have b1 : a ≤ n := hB.1
  have b2 : f1 ≤ 1000 := hB.2.1
  have b3 : f2 ≤ 1000 := hB.2.2.1
  have b4 : hf ≤ 1 := hB.2.2.2
  have hn60 : n ≤ 60 := ht.2.1.1
  have hst := ht.2.2.1
  refine x_aload_n hC d_Program_readsNumber_0 rfl rfl ?_
  refine x_getf hC kf_Program_43 p0 rfl d_Program_readsNumber_1 ?_
  refine x_istore_n hC d_Program_readsNumber_4 rfl (Nat.le_of_ble_eq_true rfl) (L1 := [some (.ref g), some (.int (nI (m))), some (.int (nI (a))), none, none]) rfl ?_
  refine x_iconst hC d_Program_readsNumber_5 (v := nI 0) (by decide) ?_
  refine x_istore_n hC d_Program_readsNumber_6 rfl (Nat.le_of_ble_eq_true rfl) (L1 := [some (.ref g), some (.int (nI (m))), some (.int (nI (a))), some (.int (nI 0)), none]) rfl ?_
  refine x_iconst hC d_Program_readsNumber_7 (v := nI 0) (by decide) ?_
  refine x_istore hC d_Program_readsNumber_8 (Nat.le_of_ble_eq_true rfl) (L1 := [some (.ref g), some (.int (nI (m))), some (.int (nI (a))), some (.int (nI 0)), some (.int (nI 0))]) rfl ?_
  have loop_10 : ∀ (m9 : Nat) (Fh10 : xF) (d : Nat) (v : Nat), (Fh10 (g) = some (.inl (4, [.ref (g + 1), .ref (g + 3), .ref (g + 4), .ref (g + 5), .ref (g + 6), .int (nI (sc)), .int (nI (cc)), .int (nI (a + d)), .int (nI (f1)), .int (nI (f2)), .int (nI (hf))]))) → (xTx Fh10 (g + 1) (60) (n) (s)) → (∀ a9 : Nat, (a9 < g ∨ g + 1 ≤ a9) → Fh10 a9 = F a9) → (d ≤ m) → (pDg n s a d = (d, v)) → (m - d < m9) → xX P Θ 10 [some (.ref g), some (.int (nI (m))), some (.int (nI (a))), some (.int (nI (v))), some (.int (nI (d)))] [] Fh10 (z) 0 0 := by
    intro m9
    induction m9 with
    | zero => intros; omega
    | succ m9 ih_10 =>
      intro Fh10 d v p0 ht hag hd kd hm_10
      have hdl := pDg_le (s := s) b1 d
      rw [kd] at hdl
      have hvd : v < 10 ^ d := hdl.2.2
      have hp3 : 10 ^ d ≤ 10 ^ 3 := Nat.pow_le_pow_right (by decide) (show d ≤ 3 by omega)
      have hv3 : v < 1000 := by omega
      have had : a + d ≤ n := hdl.2.1
      refine x_iload hC d_Program_readsNumber_10 rfl ?_
      refine x_iload_n hC d_Program_readsNumber_12 rfl rfl ?_
      refine x_icmpN_ge hC d_Program_readsNumber_13 (tgt := 69) (by decide) (by omega) (by omega) (fun c_13 => ?_) (fun c_13 => ?_)
      · skip
        refine x_aload_n hC d_Program_readsNumber_69 rfl rfl ?_
        refine x_iload_n hC d_Program_readsNumber_70 rfl rfl ?_
        refine x_callV hC kv_Program_115 (c_Program_give (p0 := p0) (h1 := by omega)) p0 rfl rfl (by decide) rfl rfl rfl (Nat.le_of_ble_eq_true rfl) (by decide) d_Program_readsNumber_71 (fun r9 F9 z9 hp9 => ?_)
        obtain ⟨rfl, h9c, j0, hag9⟩ := hp9
        rw [h9c]
        clear h9c z9
        generalize F9 = F1 at *
        have ht : xTx F1 (g + 1) (60) (n) (s) := xTx_fr ht (fun a9 q1 q2 => hag9 a9 (by omega))
        have p0 : F1 (g) = some (.inl (4, [.ref (g + 1), .ref (g + 3), .ref (g + 4), .ref (g + 5), .ref (g + 6), .int (nI (sc)), .int (nI (cc)), .int (nI ((a + d))), .int (nI ((gv3 f1 f2 hf v).1)), .int (nI ((gv3 f1 f2 hf v).2.1)), .int (nI ((gv3 f1 f2 hf v).2.2))])) := j0
        have hag : ∀ a9 : Nat, (a9 < g ∨ g + 1 ≤ a9) → F1 a9 = F a9 := fun a9 q0 => (hag9 a9 (by omega)).trans (hag a9 q0)
        have hg_71 := hag9
        clear hag9
        refine x_aload_n hC d_Program_readsNumber_74 rfl rfl ?_
        refine x_getf hC kf_Program_43 p0 rfl d_Program_readsNumber_75 ?_
        refine x_iload_n hC d_Program_readsNumber_78 rfl rfl ?_
        refine x_icmpN_le hC d_Program_readsNumber_79 (tgt := 86) (by decide) (by omega) (by omega) (fun c_79 => ?_) (fun c_79 => ?_)
        · skip
          refine x_iconst hC d_Program_readsNumber_86 (v := nI 0) (by decide) ?_
          refine hret _ _ _ _ _ _ _ d_Program_readsNumber_87 (by decide) (by decide) rfl ?_
          have hdm : pDg n s a m = (d, v) := by first | (rw [show m = d by omega]; exact kd) | (rw [show m = d + (m - d) by omega, pDg_stop c_30 (by rw [kd]) _]; exact kd)
          have e9 : pNum n s m (a, f1, f2, hf) = (decide (0 < d), pAt (pGv (a, f1, f2, hf) v) (a + d)) := by unfold pNum; rw [show ((a, f1, f2, hf) : pS).1 = a from rfl, hdm]
          exact ⟨congrArg (fun q => some (Value.int q)) (xb_f0 (fun h9 => by rw [e9] at h9; have h8 := of_decide_eq_true h9; omega)), rfl, by rw [e9]; exact p0, hag⟩
        · skip
          refine x_iconst hC d_Program_readsNumber_82 (v := nI 1) (by decide) ?_
          refine x_goto hC d_Program_readsNumber_83 (tgt := 87) (by decide) ?_
          refine hret _ _ _ _ _ _ _ d_Program_readsNumber_87 (by decide) (by decide) rfl ?_
          have hdm : pDg n s a m = (d, v) := by first | (rw [show m = d by omega]; exact kd) | (rw [show m = d + (m - d) by omega, pDg_stop c_30 (by rw [kd]) _]; exact kd)
          have e9 : pNum n s m (a, f1, f2, hf) = (decide (0 < d), pAt (pGv (a, f1, f2, hf) v) (a + d)) := by unfold pNum; rw [show ((a, f1, f2, hf) : pS).1 = a from rfl, hdm]
          exact ⟨congrArg (fun q => some (Value.int q)) (xb_t1 (by rw [e9]; exact decide_eq_true (by omega))), rfl, by rw [e9]; exact p0, hag⟩
      · skip
        refine x_aload_n hC d_Program_readsNumber_16 rfl rfl ?_
        refine x_getf hC kf_Program_14 p0 rfl d_Program_readsNumber_17 ?_
        refine x_aload_n hC d_Program_readsNumber_20 rfl rfl ?_
        refine x_getf hC kf_Program_43 p0 rfl d_Program_readsNumber_21 ?_
        refine x_callV hC kv_Program_110 (c_Text_at (ht := ht) (hi := by omega)) ht.1 rfl rfl (by decide) rfl rfl rfl (Nat.le_of_ble_eq_true rfl) (by decide) d_Program_readsNumber_24 (fun r9 F9 z9 hp9 => ?_)
        obtain ⟨rfl, h9b, h9c⟩ := hp9
        rw [h9b, h9c]
        clear h9b h9c F9 z9
        have hsg : (if a + d < n then s (a + d) else 0) < 65536 := sgN_lt hst _
        refine x_callS hC ks_Program_118 (c_Program_isDigit (hc := by omega)) (by decide) rfl rfl rfl (Nat.le_of_ble_eq_true rfl) (by decide) d_Program_readsNumber_27 (fun r9 F9 z9 hp9 => ?_)
        obtain ⟨rfl, h9b, h9c⟩ := hp9
        rw [h9b, h9c]
        clear h9b h9c F9 z9
        refine x_ifB_eq hC d_Program_readsNumber_30 (tgt := 69) (by decide) (fun c_30 => ?_) (fun c_30 => ?_)
        · skip
          refine x_aload_n hC d_Program_readsNumber_69 rfl rfl ?_
          refine x_iload_n hC d_Program_readsNumber_70 rfl rfl ?_
          refine x_callV hC kv_Program_115 (c_Program_give (p0 := p0) (h1 := by omega)) p0 rfl rfl (by decide) rfl rfl rfl (Nat.le_of_ble_eq_true rfl) (by decide) d_Program_readsNumber_71 (fun r9 F9 z9 hp9 => ?_)
          obtain ⟨rfl, h9c, j0, hag9⟩ := hp9
          rw [h9c]
          clear h9c z9
          generalize F9 = F2 at *
          have ht : xTx F2 (g + 1) (60) (n) (s) := xTx_fr ht (fun a9 q1 q2 => hag9 a9 (by omega))
          have p0 : F2 (g) = some (.inl (4, [.ref (g + 1), .ref (g + 3), .ref (g + 4), .ref (g + 5), .ref (g + 6), .int (nI (sc)), .int (nI (cc)), .int (nI ((a + d))), .int (nI ((gv3 f1 f2 hf v).1)), .int (nI ((gv3 f1 f2 hf v).2.1)), .int (nI ((gv3 f1 f2 hf v).2.2))])) := j0
          have hag : ∀ a9 : Nat, (a9 < g ∨ g + 1 ≤ a9) → F2 a9 = F a9 := fun a9 q0 => (hag9 a9 (by omega)).trans (hag a9 q0)
          have hg_71 := hag9
          clear hag9
          refine x_aload_n hC d_Program_readsNumber_74 rfl rfl ?_
          refine x_getf hC kf_Program_43 p0 rfl d_Program_readsNumber_75 ?_
          refine x_iload_n hC d_Program_readsNumber_78 rfl rfl ?_
          refine x_icmpN_le hC d_Program_readsNumber_79 (tgt := 86) (by decide) (by omega) (by omega) (fun c_79 => ?_) (fun c_79 => ?_)
          · skip
            refine x_iconst hC d_Program_readsNumber_86 (v := nI 0) (by decide) ?_
            refine hret _ _ _ _ _ _ _ d_Program_readsNumber_87 (by decide) (by decide) rfl ?_
            have hdm : pDg n s a m = (d, v) := by first | (rw [show m = d by omega]; exact kd) | (rw [show m = d + (m - d) by omega, pDg_stop c_30 (by rw [kd]) _]; exact kd)
            have e9 : pNum n s m (a, f1, f2, hf) = (decide (0 < d), pAt (pGv (a, f1, f2, hf) v) (a + d)) := by unfold pNum; rw [show ((a, f1, f2, hf) : pS).1 = a from rfl, hdm]
            exact ⟨congrArg (fun q => some (Value.int q)) (xb_f0 (fun h9 => by rw [e9] at h9; have h8 := of_decide_eq_true h9; omega)), rfl, by rw [e9]; exact p0, hag⟩
          · skip
            refine x_iconst hC d_Program_readsNumber_82 (v := nI 1) (by decide) ?_
            refine x_goto hC d_Program_readsNumber_83 (tgt := 87) (by decide) ?_
            refine hret _ _ _ _ _ _ _ d_Program_readsNumber_87 (by decide) (by decide) rfl ?_
            have hdm : pDg n s a m = (d, v) := by first | (rw [show m = d by omega]; exact kd) | (rw [show m = d + (m - d) by omega, pDg_stop c_30 (by rw [kd]) _]; exact kd)
            have e9 : pNum n s m (a, f1, f2, hf) = (decide (0 < d), pAt (pGv (a, f1, f2, hf) v) (a + d)) := by unfold pNum; rw [show ((a, f1, f2, hf) : pS).1 = a from rfl, hdm]
            exact ⟨congrArg (fun q => some (Value.int q)) (xb_t1 (by rw [e9]; exact decide_eq_true (by omega))), rfl, by rw [e9]; exact p0, hag⟩
        · skip
          refine x_iload_n hC d_Program_readsNumber_33 rfl rfl ?_
          refine x_bipush hC d_Program_readsNumber_34 (v := nI 10) (by decide) ?_
          refine x_imul hC d_Program_readsNumber_36 (v := (nI (v * 10))) (pk_mul _ _) ?_
          refine x_aload_n hC d_Program_readsNumber_37 rfl rfl ?_
          refine x_getf hC kf_Program_14 p0 rfl d_Program_readsNumber_38 ?_
          refine x_aload_n hC d_Program_readsNumber_41 rfl rfl ?_
          refine x_getf hC kf_Program_43 p0 rfl d_Program_readsNumber_42 ?_
          refine x_callV hC kv_Program_110 (c_Text_at (ht := ht) (hi := by omega)) ht.1 rfl rfl (by decide) rfl rfl rfl (Nat.le_of_ble_eq_true rfl) (by decide) d_Program_readsNumber_45 (fun r9 F9 z9 hp9 => ?_)
          obtain ⟨rfl, h9b, h9c⟩ := hp9
          rw [h9b, h9c]
          clear h9b h9c F9 z9
          refine x_bipush hC d_Program_readsNumber_48 (v := nI 48) (by decide) ?_
          refine x_isub hC d_Program_readsNumber_50 (v := (nI ((if (a + d) < n then s (a + d) else 0) - 48))) (pk_sub (by omega)) ?_
          refine x_iadd hC d_Program_readsNumber_51 (v := (nI ((v * 10) + ((if (a + d) < n then s (a + d) else 0) - 48)))) (x_addN (by omega)) ?_
          refine x_istore_n hC d_Program_readsNumber_52 rfl (Nat.le_of_ble_eq_true rfl) (L1 := [some (.ref g), some (.int (nI (m))), some (.int (nI (a))), some (.int (nI ((v * 10) + ((if (a + d) < n then s (a + d) else 0) - 48)))), some (.int (nI (d)))]) rfl ?_
          refine x_aload_n hC d_Program_readsNumber_53 rfl rfl ?_
          refine x_dup hC d_Program_readsNumber_54 rfl ?_
          refine x_getf hC kf_Program_43 p0 rfl d_Program_readsNumber_55 ?_
          refine x_iconst hC d_Program_readsNumber_58 (v := nI 1) (by decide) ?_
          refine x_iadd hC d_Program_readsNumber_59 (v := (nI (a + d + 1))) (x_addN (by omega)) ?_
          refine x_putf hC kf_Program_43 p0 (Nat.le_of_ble_eq_true rfl) rfl rfl d_Program_readsNumber_60 (fs1 := [.ref (g + 1), .ref (g + 3), .ref (g + 4), .ref (g + 5), .ref (g + 6), .int (nI (sc)), .int (nI (cc)), .int (nI (a + d + 1)), .int (nI (f1)), .int (nI (f2)), .int (nI (hf))]) rfl ?_
          generalize e3 : xup Fh10 (g) (.inl (4, [.ref (g + 1), .ref (g + 3), .ref (g + 4), .ref (g + 5), .ref (g + 6), .int (nI (sc)), .int (nI (cc)), .int (nI (a + d + 1)), .int (nI (f1)), .int (nI (f2)), .int (nI (hf))])) = F3
          have p0 : F3 (g) = some (.inl (4, [.ref (g + 1), .ref (g + 3), .ref (g + 4), .ref (g + 5), .ref (g + 6), .int (nI (sc)), .int (nI (cc)), .int (nI (a + d + 1)), .int (nI (f1)), .int (nI (f2)), .int (nI (hf))])) := by rw [← e3]; exact xup_eq
          have ht : xTx F3 (g + 1) (60) (n) (s) := xTx_fr ht (fun a9 q1 q2 => by rw [← e3]; exact xup_ne (by omega))
          have hag : ∀ a9 : Nat, (a9 < g ∨ g + 1 ≤ a9) → F3 a9 = F a9 := fun a9 q0 => by rw [← e3]; exact (xup_ne (by omega)).trans (hag a9 q0)
          refine x_iinc hC d_Program_readsNumber_63 rfl (v := (nI (d + 1))) (x_incN 1) (Nat.le_of_ble_eq_true rfl) (L1 := [some (.ref g), some (.int (nI (m))), some (.int (nI (a))), some (.int (nI ((v * 10) + ((if (a + d) < n then s (a + d) else 0) - 48)))), some (.int (nI (d + 1)))]) rfl ?_
          refine x_goto hC d_Program_readsNumber_66 (tgt := 10) (by decide) ?_
          exact ih_10 F3 (d + 1) ((v * 10) + ((if (a + d) < n then s (a + d) else 0) - 48)) p0 ht hag (by omega) (by rw [pDg, kd, if_pos ⟨rfl, c_30⟩]; rfl) (by omega)
  exact loop_10 (m - 0 + 1) F (0) (0) p0 ht hag (by omega) (rfl) (by omega)

theorem d_Program_readsPart_0 : decode prog_8_method_5_code 0 = .ok (.iload_n 1, 1) := by decide +kernel
theorem d_Program_readsPart_1 : decode prog_8_method_5_code 1 = .ok (.lookupswitch 65 #[(68, 53), (76, 48), (78, 59), (83, 43)], 43) := by decide +kernel
theorem d_Program_readsPart_44 : decode prog_8_method_5_code 44 = .ok (.aload_n 0, 1) := by decide +kernel
theorem d_Program_readsPart_45 : decode prog_8_method_5_code 45 = .ok (.invokevirtual 100, 3) := by decide +kernel
theorem d_Program_readsPart_48 : decode prog_8_method_5_code 48 = .ok (.ireturn, 1) := by decide +kernel
theorem d_Program_readsPart_49 : decode prog_8_method_5_code 49 = .ok (.aload_n 0, 1) := by decide +kernel
theorem d_Program_readsPart_50 : decode prog_8_method_5_code 50 = .ok (.invokevirtual 103, 3) := by decide +kernel
theorem d_Program_readsPart_53 : decode prog_8_method_5_code 53 = .ok (.ireturn, 1) := by decide +kernel
theorem d_Program_readsPart_54 : decode prog_8_method_5_code 54 = .ok (.aload_n 0, 1) := by decide +kernel
theorem d_Program_readsPart_55 : decode prog_8_method_5_code 55 = .ok (.iconst 1, 1) := by decide +kernel
theorem d_Program_readsPart_56 : decode prog_8_method_5_code 56 = .ok (.invokevirtual 106, 3) := by decide +kernel
theorem d_Program_readsPart_59 : decode prog_8_method_5_code 59 = .ok (.ireturn, 1) := by decide +kernel
theorem d_Program_readsPart_60 : decode prog_8_method_5_code 60 = .ok (.aload_n 0, 1) := by decide +kernel
theorem d_Program_readsPart_61 : decode prog_8_method_5_code 61 = .ok (.iconst 3, 1) := by decide +kernel
theorem d_Program_readsPart_62 : decode prog_8_method_5_code 62 = .ok (.invokevirtual 106, 3) := by decide +kernel
theorem d_Program_readsPart_65 : decode prog_8_method_5_code 65 = .ok (.ireturn, 1) := by decide +kernel
theorem d_Program_readsPart_66 : decode prog_8_method_5_code 66 = .ok (.aload_n 0, 1) := by decide +kernel
theorem d_Program_readsPart_67 : decode prog_8_method_5_code 67 = .ok (.iload_n 1, 1) := by decide +kernel
theorem d_Program_readsPart_68 : decode prog_8_method_5_code 68 = .ok (.invokevirtual 53, 3) := by decide +kernel
theorem d_Program_readsPart_71 : decode prog_8_method_5_code 71 = .ok (.ireturn, 1) := by decide +kernel
set_option maxHeartbeats 4000000 in
set_option maxRecDepth 20000 in
theorem c_Program_readsPart {P : xP} {F : xF} {z : Nat} {g : Nat} {sc : Nat} {cc : Nat} {a : Nat} {f1 : Nat} {f2 : Nat} {hf : Nat} {n : Nat} {s : Nat → Nat} {c : Nat} (p0 : F (g) = some (.inl (4, [.ref (g + 1), .ref (g + 3), .ref (g + 4), .ref (g + 5), .ref (g + 6), .int (nI (sc)), .int (nI (cc)), .int (nI (a)), .int (nI (f1)), .int (nI (f2)), .int (nI (hf))]))) (ht : xTx F (g + 1) (60) (n) (s)) (hB : pB n (a, f1, f2, hf)) (hc0 : c < 65536) : xM P xy_Program_readsPart [.ref g, .int (nI (c))] F (z) 0 0 (fun r9 F9 z9 => r9 = some (.int (xb ((pPart n s c (a, f1, f2, hf)).1 = true))) ∧ z9 = z ∧ F9 (g) = some (.inl (4, [.ref (g + 1), .ref (g + 3), .ref (g + 4), .ref (g + 5), .ref (g + 6), .int (nI (sc)), .int (nI (cc)), .int (nI (((pPart n s c (a, f1, f2, hf)).2).1)), .int (nI (((pPart n s c (a, f1, f2, hf)).2).2.1)), .int (nI (((pPart n s c (a, f1, f2, hf)).2).2.2.1)), .int (nI (((pPart n s c (a, f1, f2, hf)).2).2.2.2))])) ∧ (∀ a9 : Nat, (a9 < g ∨ g + 1 ≤ a9) → F9 a9 = F a9)) := by
  refine xM_i .boolean rfl (Nat.le_of_ble_eq_true rfl) (L0 := [some (.ref g), some (.int (nI (c)))]) rfl rfl fun Θ hC hret => ?_
  have hag : ∀ a9 : Nat, (a9 < g ∨ g + 1 ≤ a9) → F a9 = F a9 := fun a9 _ => rfl
  have b1 : a ≤ n := hB.1
  have b2 : f1 ≤ 1000 := hB.2.1
  have b3 : f2 ≤ 1000 := hB.2.2.1
  have b4 : hf ≤ 1 := hB.2.2.2
  have hn60 : n ≤ 60 := ht.2.1.1
  have hst := ht.2.2.1
  refine x_iload_n hC d_Program_readsPart_0 rfl rfl ?_
  by_cases k_1_0 : c = 68
  · skip
    refine x_lookup hC d_Program_readsPart_1 (by decide) (off := 53) (tgt := 54) (by rw [k_1_0]; decide) (by decide) ?_
    refine x_aload_n hC d_Program_readsPart_54 rfl rfl ?_
    refine x_iconst hC d_Program_readsPart_55 (v := nI 1) (by decide) ?_
    refine x_callV hC kv_Program_106 (c_Program_readsNumber (p0 := p0) (ht := ht) (hB := hB) (hm := by omega)) p0 rfl rfl (by decide) rfl rfl rfl (Nat.le_of_ble_eq_true rfl) (by decide) d_Program_readsPart_56 (fun r9 F9 z9 hp9 => ?_)
    obtain ⟨rfl, h9c, j0, hag9⟩ := hp9
    rw [h9c]
    clear h9c z9
    generalize F9 = F1 at *
    have ht : xTx F1 (g + 1) (60) (n) (s) := xTx_fr ht (fun a9 q1 q2 => hag9 a9 (by omega))
    have p0 : F1 (g) = some (.inl (4, [.ref (g + 1), .ref (g + 3), .ref (g + 4), .ref (g + 5), .ref (g + 6), .int (nI (sc)), .int (nI (cc)), .int (nI (((pNum n s 1 (a, f1, f2, hf)).2).1)), .int (nI (((pNum n s 1 (a, f1, f2, hf)).2).2.1)), .int (nI (((pNum n s 1 (a, f1, f2, hf)).2).2.2.1)), .int (nI (((pNum n s 1 (a, f1, f2, hf)).2).2.2.2))])) := j0
    have hag : ∀ a9 : Nat, (a9 < g ∨ g + 1 ≤ a9) → F1 a9 = F a9 := fun a9 q0 => (hag9 a9 (by omega)).trans (hag a9 q0)
    have hg_56 := hag9
    clear hag9
    refine hret _ _ _ _ _ _ _ d_Program_readsPart_59 (by decide) (by decide) xb_nar ?_
    have e9 : pPart n s c (a, f1, f2, hf) = pNum n s 1 (a, f1, f2, hf) := if_pos k_1_0
    exact ⟨by rw [e9], rfl, by rw [e9]; exact p0, hag⟩
  · skip
    by_cases k_1_1 : c = 76
    · skip
      refine x_lookup hC d_Program_readsPart_1 (by decide) (off := 48) (tgt := 49) (by rw [k_1_1]; decide) (by decide) ?_
      refine x_aload_n hC d_Program_readsPart_49 rfl rfl ?_
      refine x_callV hC kv_Program_103 (c_Program_readsSymbols (p0 := p0) (ht := ht) (hB := hB)) p0 rfl rfl (by decide) rfl rfl rfl (Nat.le_of_ble_eq_true rfl) (by decide) d_Program_readsPart_50 (fun r9 F9 z9 hp9 => ?_)
      obtain ⟨rfl, h9c, j0, hag9⟩ := hp9
      rw [h9c]
      clear h9c z9
      generalize F9 = F2 at *
      have ht : xTx F2 (g + 1) (60) (n) (s) := xTx_fr ht (fun a9 q1 q2 => hag9 a9 (by omega))
      have p0 : F2 (g) = some (.inl (4, [.ref (g + 1), .ref (g + 3), .ref (g + 4), .ref (g + 5), .ref (g + 6), .int (nI (sc)), .int (nI (cc)), .int (nI (((pSyms n s (a, f1, f2, hf)).2).1)), .int (nI (((pSyms n s (a, f1, f2, hf)).2).2.1)), .int (nI (((pSyms n s (a, f1, f2, hf)).2).2.2.1)), .int (nI (((pSyms n s (a, f1, f2, hf)).2).2.2.2))])) := j0
      have hag : ∀ a9 : Nat, (a9 < g ∨ g + 1 ≤ a9) → F2 a9 = F a9 := fun a9 q0 => (hag9 a9 (by omega)).trans (hag a9 q0)
      have hg_50 := hag9
      clear hag9
      refine hret _ _ _ _ _ _ _ d_Program_readsPart_53 (by decide) (by decide) xb_nar ?_
      have e9 : pPart n s c (a, f1, f2, hf) = pSyms n s (a, f1, f2, hf) := (if_neg k_1_0).trans (if_pos k_1_1)
      exact ⟨by rw [e9], rfl, by rw [e9]; exact p0, hag⟩
    · skip
      by_cases k_1_2 : c = 78
      · skip
        refine x_lookup hC d_Program_readsPart_1 (by decide) (off := 59) (tgt := 60) (by rw [k_1_2]; decide) (by decide) ?_
        refine x_aload_n hC d_Program_readsPart_60 rfl rfl ?_
        refine x_iconst hC d_Program_readsPart_61 (v := nI 3) (by decide) ?_
        refine x_callV hC kv_Program_106 (c_Program_readsNumber (p0 := p0) (ht := ht) (hB := hB) (hm := by omega)) p0 rfl rfl (by decide) rfl rfl rfl (Nat.le_of_ble_eq_true rfl) (by decide) d_Program_readsPart_62 (fun r9 F9 z9 hp9 => ?_)
        obtain ⟨rfl, h9c, j0, hag9⟩ := hp9
        rw [h9c]
        clear h9c z9
        generalize F9 = F3 at *
        have ht : xTx F3 (g + 1) (60) (n) (s) := xTx_fr ht (fun a9 q1 q2 => hag9 a9 (by omega))
        have p0 : F3 (g) = some (.inl (4, [.ref (g + 1), .ref (g + 3), .ref (g + 4), .ref (g + 5), .ref (g + 6), .int (nI (sc)), .int (nI (cc)), .int (nI (((pNum n s 3 (a, f1, f2, hf)).2).1)), .int (nI (((pNum n s 3 (a, f1, f2, hf)).2).2.1)), .int (nI (((pNum n s 3 (a, f1, f2, hf)).2).2.2.1)), .int (nI (((pNum n s 3 (a, f1, f2, hf)).2).2.2.2))])) := j0
        have hag : ∀ a9 : Nat, (a9 < g ∨ g + 1 ≤ a9) → F3 a9 = F a9 := fun a9 q0 => (hag9 a9 (by omega)).trans (hag a9 q0)
        have hg_62 := hag9
        clear hag9
        refine hret _ _ _ _ _ _ _ d_Program_readsPart_65 (by decide) (by decide) xb_nar ?_
        have e9 : pPart n s c (a, f1, f2, hf) = pNum n s 3 (a, f1, f2, hf) := (if_neg k_1_0).trans ((if_neg k_1_1).trans (if_pos k_1_2))
        exact ⟨by rw [e9], rfl, by rw [e9]; exact p0, hag⟩
      · skip
        by_cases k_1_3 : c = 83
        · skip
          refine x_lookup hC d_Program_readsPart_1 (by decide) (off := 43) (tgt := 44) (by rw [k_1_3]; decide) (by decide) ?_
          refine x_aload_n hC d_Program_readsPart_44 rfl rfl ?_
          refine x_callV hC kv_Program_100 (c_Program_readsSymbol (p0 := p0) (ht := ht) (hB := hB)) p0 rfl rfl (by decide) rfl rfl rfl (Nat.le_of_ble_eq_true rfl) (by decide) d_Program_readsPart_45 (fun r9 F9 z9 hp9 => ?_)
          obtain ⟨rfl, h9c, j0, hag9⟩ := hp9
          rw [h9c]
          clear h9c z9
          generalize F9 = F4 at *
          have ht : xTx F4 (g + 1) (60) (n) (s) := xTx_fr ht (fun a9 q1 q2 => hag9 a9 (by omega))
          have p0 : F4 (g) = some (.inl (4, [.ref (g + 1), .ref (g + 3), .ref (g + 4), .ref (g + 5), .ref (g + 6), .int (nI (sc)), .int (nI (cc)), .int (nI (((pSym n s (a, f1, f2, hf)).2).1)), .int (nI (((pSym n s (a, f1, f2, hf)).2).2.1)), .int (nI (((pSym n s (a, f1, f2, hf)).2).2.2.1)), .int (nI (((pSym n s (a, f1, f2, hf)).2).2.2.2))])) := j0
          have hag : ∀ a9 : Nat, (a9 < g ∨ g + 1 ≤ a9) → F4 a9 = F a9 := fun a9 q0 => (hag9 a9 (by omega)).trans (hag a9 q0)
          have hg_45 := hag9
          clear hag9
          refine hret _ _ _ _ _ _ _ d_Program_readsPart_48 (by decide) (by decide) xb_nar ?_
          have e9 : pPart n s c (a, f1, f2, hf) = pSym n s (a, f1, f2, hf) := (if_neg k_1_0).trans ((if_neg k_1_1).trans ((if_neg k_1_2).trans (if_pos k_1_3)))
          exact ⟨by rw [e9], rfl, by rw [e9]; exact p0, hag⟩
        · skip
          refine x_lookup hC d_Program_readsPart_1 (by decide) (off := 65) (tgt := 66) (by rw [nI_toInt (by omega)]; show Op.lookupswitch.offset [(68, 53), (76, 48), (78, 59), (83, 43)] 65 (((c : Nat) : Int) : Int) = 65; rw [Op.lookupswitch.offset_cons, if_neg (by omega)]; rw [Op.lookupswitch.offset_cons, if_neg (by omega)]; rw [Op.lookupswitch.offset_cons, if_neg (by omega)]; rw [Op.lookupswitch.offset_cons, if_neg (by omega)]; rfl) (by decide) ?_
          refine x_aload_n hC d_Program_readsPart_66 rfl rfl ?_
          refine x_iload_n hC d_Program_readsPart_67 rfl rfl ?_
          refine x_callV hC kv_Program_53 (c_Program_readsSign (p0 := p0) (ht := ht) (hB := hB) (hc0 := by omega)) p0 rfl rfl (by decide) rfl rfl rfl (Nat.le_of_ble_eq_true rfl) (by decide) d_Program_readsPart_68 (fun r9 F9 z9 hp9 => ?_)
          obtain ⟨rfl, h9c, j0, hag9⟩ := hp9
          rw [h9c]
          clear h9c z9
          generalize F9 = F5 at *
          have ht : xTx F5 (g + 1) (60) (n) (s) := xTx_fr ht (fun a9 q1 q2 => hag9 a9 (by omega))
          have p0 : F5 (g) = some (.inl (4, [.ref (g + 1), .ref (g + 3), .ref (g + 4), .ref (g + 5), .ref (g + 6), .int (nI (sc)), .int (nI (cc)), .int (nI (((pSign n s c (a, f1, f2, hf)).2).1)), .int (nI (((pSign n s c (a, f1, f2, hf)).2).2.1)), .int (nI (((pSign n s c (a, f1, f2, hf)).2).2.2.1)), .int (nI (((pSign n s c (a, f1, f2, hf)).2).2.2.2))])) := j0
          have hag : ∀ a9 : Nat, (a9 < g ∨ g + 1 ≤ a9) → F5 a9 = F a9 := fun a9 q0 => (hag9 a9 (by omega)).trans (hag a9 q0)
          have hg_68 := hag9
          clear hag9
          refine hret _ _ _ _ _ _ _ d_Program_readsPart_71 (by decide) (by decide) xb_nar ?_
          have e9 : pPart n s c (a, f1, f2, hf) = pSign n s c (a, f1, f2, hf) := (if_neg k_1_0).trans ((if_neg k_1_1).trans ((if_neg k_1_2).trans (if_neg k_1_3)))
          exact ⟨by rw [e9], rfl, by rw [e9]; exact p0, hag⟩

theorem d_Program_readsForm_0 : decode prog_8_method_4_code 0 = .ok (.aload_n 0, 1) := by decide +kernel
theorem d_Program_readsForm_1 : decode prog_8_method_4_code 1 = .ok (.iconst 0, 1) := by decide +kernel
theorem d_Program_readsForm_2 : decode prog_8_method_4_code 2 = .ok (.putfield 78, 3) := by decide +kernel
theorem d_Program_readsForm_5 : decode prog_8_method_4_code 5 = .ok (.aload_n 0, 1) := by decide +kernel
theorem d_Program_readsForm_6 : decode prog_8_method_4_code 6 = .ok (.iconst 0, 1) := by decide +kernel
theorem d_Program_readsForm_7 : decode prog_8_method_4_code 7 = .ok (.putfield 82, 3) := by decide +kernel
theorem d_Program_readsForm_10 : decode prog_8_method_4_code 10 = .ok (.aload_n 0, 1) := by decide +kernel
theorem d_Program_readsForm_11 : decode prog_8_method_4_code 11 = .ok (.iconst 0, 1) := by decide +kernel
theorem d_Program_readsForm_12 : decode prog_8_method_4_code 12 = .ok (.putfield 85, 3) := by decide +kernel
theorem d_Program_readsForm_15 : decode prog_8_method_4_code 15 = .ok (.iconst 0, 1) := by decide +kernel
theorem d_Program_readsForm_16 : decode prog_8_method_4_code 16 = .ok (.istore_n 2, 1) := by decide +kernel
theorem d_Program_readsForm_17 : decode prog_8_method_4_code 17 = .ok (.iload_n 2, 1) := by decide +kernel
theorem d_Program_readsForm_18 : decode prog_8_method_4_code 18 = .ok (.aload_n 1, 1) := by decide +kernel
theorem d_Program_readsForm_19 : decode prog_8_method_4_code 19 = .ok (.invokevirtual 88, 3) := by decide +kernel
theorem d_Program_readsForm_22 : decode prog_8_method_4_code 22 = .ok (.if_icmp .ge 23, 3) := by decide +kernel
theorem d_Program_readsForm_25 : decode prog_8_method_4_code 25 = .ok (.aload_n 0, 1) := by decide +kernel
theorem d_Program_readsForm_26 : decode prog_8_method_4_code 26 = .ok (.aload_n 1, 1) := by decide +kernel
theorem d_Program_readsForm_27 : decode prog_8_method_4_code 27 = .ok (.iload_n 2, 1) := by decide +kernel
theorem d_Program_readsForm_28 : decode prog_8_method_4_code 28 = .ok (.invokevirtual 93, 3) := by decide +kernel
theorem d_Program_readsForm_31 : decode prog_8_method_4_code 31 = .ok (.invokevirtual 97, 3) := by decide +kernel
theorem d_Program_readsForm_34 : decode prog_8_method_4_code 34 = .ok (.ifCond .ne 5, 3) := by decide +kernel
theorem d_Program_readsForm_37 : decode prog_8_method_4_code 37 = .ok (.iconst 0, 1) := by decide +kernel
theorem d_Program_readsForm_38 : decode prog_8_method_4_code 38 = .ok (.ireturn, 1) := by decide +kernel
theorem d_Program_readsForm_39 : decode prog_8_method_4_code 39 = .ok (.iinc 2 1, 3) := by decide +kernel
theorem d_Program_readsForm_42 : decode prog_8_method_4_code 42 = .ok (.goto (-25), 3) := by decide +kernel
theorem d_Program_readsForm_45 : decode prog_8_method_4_code 45 = .ok (.iconst 1, 1) := by decide +kernel
theorem d_Program_readsForm_46 : decode prog_8_method_4_code 46 = .ok (.ireturn, 1) := by decide +kernel
set_option maxHeartbeats 4000000 in
set_option maxRecDepth 20000 in
theorem c_Program_readsForm {P : xP} {F : xF} {z : Nat} {g : Nat} {sc : Nat} {cc : Nat} {a : Nat} {f1 : Nat} {f2 : Nat} {hf : Nat} {n : Nat} {s : Nat → Nat} {c : Nat} {cm : cmT} (p0 : F (g) = some (.inl (4, [.ref (g + 1), .ref (g + 3), .ref (g + 4), .ref (g + 5), .ref (g + 6), .int (nI (sc)), .int (nI (cc)), .int (nI (a)), .int (nI (f1)), .int (nI (f2)), .int (nI (hf))]))) (ht : xTx F (g + 1) (60) (n) (s)) (ha : a ≤ n) (hc : c < 10) (hCM : xCM P cm) : xM P xy_Program_readsForm [.ref g, .ref (cm.2.2.1 c)] F (z) 0 0 (fun r9 F9 z9 => r9 = some (.int (xb ((pTry n s a c).1 = true))) ∧ z9 = z ∧ F9 (g) = some (.inl (4, [.ref (g + 1), .ref (g + 3), .ref (g + 4), .ref (g + 5), .ref (g + 6), .int (nI (sc)), .int (nI (cc)), .int (nI (((pTry n s a c).2).1)), .int (nI (((pTry n s a c).2).2.1)), .int (nI (((pTry n s a c).2).2.2.1)), .int (nI (((pTry n s a c).2).2.2.2))])) ∧ (∀ a9 : Nat, (a9 < g ∨ g + 1 ≤ a9) → F9 a9 = F a9)) := by
  refine xM_i .boolean rfl (Nat.le_of_ble_eq_true rfl) (L0 := [some (.ref g), some (.ref (cm.2.2.1 c)), none]) rfl rfl fun Θ hC hret => ?_
  have hag : ∀ a9 : Nat, (a9 < g ∨ g + 1 ≤ a9) → F a9 = F a9 := fun a9 _ => rfl
  have hn60 : n ≤ 60 := ht.2.1.1
  have hfo := frm_ok c hc
  refine x_aload_n hC d_Program_readsForm_0 rfl rfl ?_
  refine x_iconst hC d_Program_readsForm_1 (v := nI 0) (by decide) ?_
  refine x_putf hC kf_Program_78 p0 (Nat.le_of_ble_eq_true rfl) rfl rfl d_Program_readsForm_2 (fs1 := [.ref (g + 1), .ref (g + 3), .ref (g + 4), .ref (g + 5), .ref (g + 6), .int (nI (sc)), .int (nI (cc)), .int (nI (a)), .int (nI (f1)), .int (nI (f2)), .int (nI 0)]) rfl ?_
  generalize e1 : xup F (g) (.inl (4, [.ref (g + 1), .ref (g + 3), .ref (g + 4), .ref (g + 5), .ref (g + 6), .int (nI (sc)), .int (nI (cc)), .int (nI (a)), .int (nI (f1)), .int (nI (f2)), .int (nI 0)])) = F1
  have p0 : F1 (g) = some (.inl (4, [.ref (g + 1), .ref (g + 3), .ref (g + 4), .ref (g + 5), .ref (g + 6), .int (nI (sc)), .int (nI (cc)), .int (nI (a)), .int (nI (f1)), .int (nI (f2)), .int (nI 0)])) := by rw [← e1]; exact xup_eq
  have ht : xTx F1 (g + 1) (60) (n) (s) := xTx_fr ht (fun a9 q1 q2 => by rw [← e1]; exact xup_ne (by omega))
  have hag : ∀ a9 : Nat, (a9 < g ∨ g + 1 ≤ a9) → F1 a9 = F a9 := fun a9 q0 => by rw [← e1]; exact (xup_ne (by omega)).trans (hag a9 q0)
  refine x_aload_n hC d_Program_readsForm_5 rfl rfl ?_
  refine x_iconst hC d_Program_readsForm_6 (v := nI 0) (by decide) ?_
  refine x_putf hC kf_Program_82 p0 (Nat.le_of_ble_eq_true rfl) rfl rfl d_Program_readsForm_7 (fs1 := [.ref (g + 1), .ref (g + 3), .ref (g + 4), .ref (g + 5), .ref (g + 6), .int (nI (sc)), .int (nI (cc)), .int (nI (a)), .int (nI 0), .int (nI (f2)), .int (nI 0)]) rfl ?_
  generalize e2 : xup F1 (g) (.inl (4, [.ref (g + 1), .ref (g + 3), .ref (g + 4), .ref (g + 5), .ref (g + 6), .int (nI (sc)), .int (nI (cc)), .int (nI (a)), .int (nI 0), .int (nI (f2)), .int (nI 0)])) = F2
  have p0 : F2 (g) = some (.inl (4, [.ref (g + 1), .ref (g + 3), .ref (g + 4), .ref (g + 5), .ref (g + 6), .int (nI (sc)), .int (nI (cc)), .int (nI (a)), .int (nI 0), .int (nI (f2)), .int (nI 0)])) := by rw [← e2]; exact xup_eq
  have ht : xTx F2 (g + 1) (60) (n) (s) := xTx_fr ht (fun a9 q1 q2 => by rw [← e2]; exact xup_ne (by omega))
  have hag : ∀ a9 : Nat, (a9 < g ∨ g + 1 ≤ a9) → F2 a9 = F a9 := fun a9 q0 => by rw [← e2]; exact (xup_ne (by omega)).trans (hag a9 q0)
  refine x_aload_n hC d_Program_readsForm_10 rfl rfl ?_
  refine x_iconst hC d_Program_readsForm_11 (v := nI 0) (by decide) ?_
  refine x_putf hC kf_Program_85 p0 (Nat.le_of_ble_eq_true rfl) rfl rfl d_Program_readsForm_12 (fs1 := [.ref (g + 1), .ref (g + 3), .ref (g + 4), .ref (g + 5), .ref (g + 6), .int (nI (sc)), .int (nI (cc)), .int (nI (a)), .int (nI 0), .int (nI 0), .int (nI 0)]) rfl ?_
  generalize e3 : xup F2 (g) (.inl (4, [.ref (g + 1), .ref (g + 3), .ref (g + 4), .ref (g + 5), .ref (g + 6), .int (nI (sc)), .int (nI (cc)), .int (nI (a)), .int (nI 0), .int (nI 0), .int (nI 0)])) = F3
  have p0 : F3 (g) = some (.inl (4, [.ref (g + 1), .ref (g + 3), .ref (g + 4), .ref (g + 5), .ref (g + 6), .int (nI (sc)), .int (nI (cc)), .int (nI (a)), .int (nI 0), .int (nI 0), .int (nI 0)])) := by rw [← e3]; exact xup_eq
  have ht : xTx F3 (g + 1) (60) (n) (s) := xTx_fr ht (fun a9 q1 q2 => by rw [← e3]; exact xup_ne (by omega))
  have hag : ∀ a9 : Nat, (a9 < g ∨ g + 1 ≤ a9) → F3 a9 = F a9 := fun a9 q0 => by rw [← e3]; exact (xup_ne (by omega)).trans (hag a9 q0)
  refine x_iconst hC d_Program_readsForm_15 (v := nI 0) (by decide) ?_
  refine x_istore_n hC d_Program_readsForm_16 rfl (Nat.le_of_ble_eq_true rfl) (L1 := [some (.ref g), some (.ref (cm.2.2.1 c)), some (.int (nI 0))]) rfl ?_
  have loop_17 : ∀ (m9 : Nat) (Fh17 : xF) (i : Nat) (a1 : Nat) (x1 : Nat) (x2 : Nat) (x3 : Nat), (Fh17 (g) = some (.inl (4, [.ref (g + 1), .ref (g + 3), .ref (g + 4), .ref (g + 5), .ref (g + 6), .int (nI (sc)), .int (nI (cc)), .int (nI (a1)), .int (nI (x1)), .int (nI (x2)), .int (nI (x3))]))) → (xTx Fh17 (g + 1) (60) (n) (s)) → (∀ a9 : Nat, (a9 < g ∨ g + 1 ≤ a9) → Fh17 a9 = F a9) → (i ≤ fln c) → (pForm n s (frm c) a i = (true, a1, x1, x2, x3)) → (fln c - i < m9) → xX P Θ 17 [some (.ref g), some (.ref (cm.2.2.1 c)), some (.int (nI (i)))] [] Fh17 (z) 0 0 := by
    intro m9
    induction m9 with
    | zero => intros; omega
    | succ m9 ih_17 =>
      intro Fh17 i a1 x1 x2 x3 p0 ht hag hi kd hm_17
      refine x_iload_n hC d_Program_readsForm_17 rfl rfl ?_
      refine x_aload_n hC d_Program_readsForm_18 rfl rfl ?_
      refine x_callVS hC kv_Program_88 (c_String_length (hS := hCM.2.2.2.2.1 c hc) (t := cm.2.2.1 c) (vb := cm.2.2.2.1 c) (fo := cm.2.2.2.2) (n := fln c) (g := frm c)) (hCM.2.2.2.2.1 c hc).1 rfl (by decide) rfl rfl rfl (Nat.le_of_ble_eq_true rfl) (by decide) d_Program_readsForm_19 (fun r9 F9 z9 hp9 => ?_)
      obtain ⟨rfl, h9b, h9c⟩ := hp9
      rw [h9b, h9c]
      clear h9b h9c F9 z9
      refine x_icmpN_ge hC d_Program_readsForm_22 (tgt := 45) (by decide) (by omega) (by omega) (fun c_22 => ?_) (fun c_22 => ?_)
      · skip
        refine x_iconst hC d_Program_readsForm_45 (v := nI 1) (by decide) ?_
        refine hret _ _ _ _ _ _ _ d_Program_readsForm_46 (by decide) (by decide) rfl ?_
        have e9 : pTry n s a c = (true, a1, x1, x2, x3) := by rw [pTry, ← show i = fln c by omega]; exact kd
        exact ⟨congrArg (fun q => some (Value.int q)) (xb_t1 (congrArg Prod.fst e9)), rfl, by rw [e9]; exact p0, hag⟩
      · skip
        refine x_aload_n hC d_Program_readsForm_25 rfl rfl ?_
        refine x_aload_n hC d_Program_readsForm_26 rfl rfl ?_
        refine x_iload_n hC d_Program_readsForm_27 rfl rfl ?_
        refine x_callVS hC kv_Program_93 (c_String_charAt (hS := hCM.2.2.2.2.1 c hc) (hi := by omega) (t := cm.2.2.1 c) (vb := cm.2.2.2.1 c) (fo := cm.2.2.2.2) (n := fln c) (g := frm c)) (hCM.2.2.2.2.1 c hc).1 rfl (by decide) rfl rfl rfl (Nat.le_of_ble_eq_true rfl) (by decide) d_Program_readsForm_28 (fun r9 F9 z9 hp9 => ?_)
        obtain ⟨rfl, h9b, h9c⟩ := hp9
        rw [h9b, h9c]
        clear h9b h9c F9 z9
        have hfi := hfo.2 i (by omega)
        have hBi : pB n (a1, x1, x2, x3) := by have h9 := pForm_B (s := s) hn60 ha i (fun j hj => (hfo.2 j (by omega)).1); rw [kd] at h9; exact h9
        have hnx : pForm n s (frm c) a (i + 1) = pPart n s (frm c i) (a1, x1, x2, x3) := by rw [pForm, kd, if_pos rfl]
        refine x_callV hC kv_Program_97 (c_Program_readsPart (p0 := p0) (ht := ht) (hB := hBi) (hc0 := by omega)) p0 rfl rfl (by decide) rfl rfl rfl (Nat.le_of_ble_eq_true rfl) (by decide) d_Program_readsForm_31 (fun r9 F9 z9 hp9 => ?_)
        obtain ⟨rfl, h9c, j0, hag9⟩ := hp9
        rw [h9c]
        clear h9c z9
        generalize F9 = F4 at *
        have ht : xTx F4 (g + 1) (60) (n) (s) := xTx_fr ht (fun a9 q1 q2 => hag9 a9 (by omega))
        have p0 : F4 (g) = some (.inl (4, [.ref (g + 1), .ref (g + 3), .ref (g + 4), .ref (g + 5), .ref (g + 6), .int (nI (sc)), .int (nI (cc)), .int (nI (((pPart n s ((frm c) i) (a1, x1, x2, x3)).2).1)), .int (nI (((pPart n s ((frm c) i) (a1, x1, x2, x3)).2).2.1)), .int (nI (((pPart n s ((frm c) i) (a1, x1, x2, x3)).2).2.2.1)), .int (nI (((pPart n s ((frm c) i) (a1, x1, x2, x3)).2).2.2.2))])) := j0
        have hag : ∀ a9 : Nat, (a9 < g ∨ g + 1 ≤ a9) → F4 a9 = F a9 := fun a9 q0 => (hag9 a9 (by omega)).trans (hag a9 q0)
        have hg_31 := hag9
        clear hag9
        refine x_ifB_ne hC d_Program_readsForm_34 (tgt := 39) (by decide) (fun c_34 => ?_) (fun c_34 => ?_)
        · skip
          refine x_iinc hC d_Program_readsForm_39 rfl (v := (nI (i + 1))) (x_incN 1) (Nat.le_of_ble_eq_true rfl) (L1 := [some (.ref g), some (.ref (cm.2.2.1 c)), some (.int (nI (i + 1)))]) rfl ?_
          refine x_goto hC d_Program_readsForm_42 (tgt := 17) (by decide) ?_
          exact ih_17 F4 (i + 1) ((pPart n s (frm c i) (a1, x1, x2, x3)).2.1) ((pPart n s (frm c i) (a1, x1, x2, x3)).2.2.1) ((pPart n s (frm c i) (a1, x1, x2, x3)).2.2.2.1) ((pPart n s (frm c i) (a1, x1, x2, x3)).2.2.2.2) p0 ht hag (by omega) (by rw [hnx]; exact Prod.ext c_34 rfl) (by omega)
        · skip
          refine x_iconst hC d_Program_readsForm_37 (v := nI 0) (by decide) ?_
          refine hret _ _ _ _ _ _ _ d_Program_readsForm_38 (by decide) (by decide) rfl ?_
          have e9 : pTry n s a c = pPart n s (frm c i) (a1, x1, x2, x3) := by rw [pTry, show fln c = (i + 1) + (fln c - (i + 1)) by omega, pForm_stop (by rw [hnx]; exact Bool.eq_false_iff.mpr c_34) _, hnx]
          exact ⟨congrArg (fun q => some (Value.int q)) (xb_f0 (fun h9 => by rw [e9] at h9; exact c_34 h9)), rfl, by rw [e9]; exact p0, hag⟩
  exact loop_17 (fln c - 0 + 1) F3 (0) (a) (0) (0) (0) p0 ht hag (by omega) (rfl) (by omega)

theorem upd_cmd {f : Nat → Value} {ce cf : Nat → Nat} {k c : Nat} (h : ∀ j, j < k → f j = .ref (ce (cf j)) ∧ cf j < 10) (hc : c < 10) : ∀ j, j < k + 1 → updV f k (.ref (ce c)) j = .ref (ce (updN cf k c j)) ∧ updN cf k c j < 10 := by
  intro j hj
  by_cases e : j = k
  · rw [e, updN_eq]
    exact ⟨if_pos rfl, hc⟩
  · rw [updN_ne e]
    have h2 := h j (by omega)
    exact ⟨(if_neg e).trans h2.1, h2.2⟩

theorem d_Program_keepStep_0 : decode prog_8_method_13_code 0 = .ok (.aload_n 0, 1) := by decide +kernel
theorem d_Program_keepStep_1 : decode prog_8_method_13_code 1 = .ok (.getfield 36, 3) := by decide +kernel
theorem d_Program_keepStep_4 : decode prog_8_method_13_code 4 = .ok (.bipush 60, 2) := by decide +kernel
theorem d_Program_keepStep_6 : decode prog_8_method_13_code 6 = .ok (.if_icmp .ge 56, 3) := by decide +kernel
theorem d_Program_keepStep_9 : decode prog_8_method_13_code 9 = .ok (.aload_n 0, 1) := by decide +kernel
theorem d_Program_keepStep_10 : decode prog_8_method_13_code 10 = .ok (.getfield 22, 3) := by decide +kernel
theorem d_Program_keepStep_13 : decode prog_8_method_13_code 13 = .ok (.aload_n 0, 1) := by decide +kernel
theorem d_Program_keepStep_14 : decode prog_8_method_13_code 14 = .ok (.getfield 36, 3) := by decide +kernel
theorem d_Program_keepStep_17 : decode prog_8_method_13_code 17 = .ok (.aload_n 1, 1) := by decide +kernel
theorem d_Program_keepStep_18 : decode prog_8_method_13_code 18 = .ok (.aastore, 1) := by decide +kernel
theorem d_Program_keepStep_19 : decode prog_8_method_13_code 19 = .ok (.aload_n 0, 1) := by decide +kernel
theorem d_Program_keepStep_20 : decode prog_8_method_13_code 20 = .ok (.getfield 26, 3) := by decide +kernel
theorem d_Program_keepStep_23 : decode prog_8_method_13_code 23 = .ok (.aload_n 0, 1) := by decide +kernel
theorem d_Program_keepStep_24 : decode prog_8_method_13_code 24 = .ok (.getfield 36, 3) := by decide +kernel
theorem d_Program_keepStep_27 : decode prog_8_method_13_code 27 = .ok (.iload_n 2, 1) := by decide +kernel
theorem d_Program_keepStep_28 : decode prog_8_method_13_code 28 = .ok (.iastore, 1) := by decide +kernel
theorem d_Program_keepStep_29 : decode prog_8_method_13_code 29 = .ok (.aload_n 0, 1) := by decide +kernel
theorem d_Program_keepStep_30 : decode prog_8_method_13_code 30 = .ok (.getfield 30, 3) := by decide +kernel
theorem d_Program_keepStep_33 : decode prog_8_method_13_code 33 = .ok (.aload_n 0, 1) := by decide +kernel
theorem d_Program_keepStep_34 : decode prog_8_method_13_code 34 = .ok (.getfield 36, 3) := by decide +kernel
theorem d_Program_keepStep_37 : decode prog_8_method_13_code 37 = .ok (.iload_n 3, 1) := by decide +kernel
theorem d_Program_keepStep_38 : decode prog_8_method_13_code 38 = .ok (.iastore, 1) := by decide +kernel
theorem d_Program_keepStep_39 : decode prog_8_method_13_code 39 = .ok (.aload_n 0, 1) := by decide +kernel
theorem d_Program_keepStep_40 : decode prog_8_method_13_code 40 = .ok (.getfield 33, 3) := by decide +kernel
theorem d_Program_keepStep_43 : decode prog_8_method_13_code 43 = .ok (.aload_n 0, 1) := by decide +kernel
theorem d_Program_keepStep_44 : decode prog_8_method_13_code 44 = .ok (.getfield 36, 3) := by decide +kernel
theorem d_Program_keepStep_47 : decode prog_8_method_13_code 47 = .ok (.aload_n 0, 1) := by decide +kernel
theorem d_Program_keepStep_48 : decode prog_8_method_13_code 48 = .ok (.getfield 40, 3) := by decide +kernel
theorem d_Program_keepStep_51 : decode prog_8_method_13_code 51 = .ok (.iastore, 1) := by decide +kernel
theorem d_Program_keepStep_52 : decode prog_8_method_13_code 52 = .ok (.aload_n 0, 1) := by decide +kernel
theorem d_Program_keepStep_53 : decode prog_8_method_13_code 53 = .ok (.dup, 1) := by decide +kernel
theorem d_Program_keepStep_54 : decode prog_8_method_13_code 54 = .ok (.getfield 36, 3) := by decide +kernel
theorem d_Program_keepStep_57 : decode prog_8_method_13_code 57 = .ok (.iconst 1, 1) := by decide +kernel
theorem d_Program_keepStep_58 : decode prog_8_method_13_code 58 = .ok (.iadd, 1) := by decide +kernel
theorem d_Program_keepStep_59 : decode prog_8_method_13_code 59 = .ok (.putfield 36, 3) := by decide +kernel
theorem d_Program_keepStep_62 : decode prog_8_method_13_code 62 = .ok (.return_, 1) := by decide +kernel
set_option maxHeartbeats 4000000 in
set_option maxRecDepth 20000 in
theorem c_Program_keepStep {P : xP} {F : xF} {z : Nat} {g : Nat} {cc : Nat} {a : Nat} {f1 : Nat} {f2 : Nat} {hf : Nat} {K : kS} {cm : cmT} {c : Nat} {one : Nat} {two : Nat} (p0 : F (g) = some (.inl (4, [.ref (g + 1), .ref (g + 3), .ref (g + 4), .ref (g + 5), .ref (g + 6), .int (nI (K.1)), .int (nI (cc)), .int (nI (a)), .int (nI (f1)), .int (nI (f2)), .int (nI (hf))]))) (hK : xPk F (g) (cm.2.1) (K)) (hc : c < 10) (hCM : xCM P cm) : xM P xy_Program_keepStep [.ref g, .ref (cm.2.1 c), .int (nI (one)), .int (nI (two))] F (z) 0 0 (fun r9 F9 z9 => r9 = none ∧ z9 = z ∧ F9 (g) = some (.inl (4, [.ref (g + 1), .ref (g + 3), .ref (g + 4), .ref (g + 5), .ref (g + 6), .int (nI ((kStep K c one two cc).1)), .int (nI (cc)), .int (nI (a)), .int (nI (f1)), .int (nI (f2)), .int (nI (hf))])) ∧ xPk F9 (g) (cm.2.1) ((kStep K c one two cc)) ∧ (∀ a9 : Nat, (a9 < g ∨ g + 1 ≤ a9) → (a9 < g + 3 ∨ g + 3 + 4 ≤ a9) → F9 a9 = F a9)) := by
  refine xM_v rfl (Nat.le_of_ble_eq_true rfl) (L0 := [some (.ref g), some (.ref (cm.2.1 c)), some (.int (nI (one))), some (.int (nI (two)))]) rfl rfl fun Θ hC hin hret => ?_
  have hag : ∀ a9 : Nat, (a9 < g ∨ g + 1 ≤ a9) → (a9 < g + 3 ∨ g + 3 + 4 ≤ a9) → F a9 = F a9 := fun a9 _ _ => rfl
  obtain ⟨sc, cf, fi, se, nu⟩ := K
  obtain ⟨hk60, ⟨fv, v0, hv⟩, ⟨g1, q1, w1⟩, ⟨g2, q2, w2⟩, g3, q3, w3⟩ := id hK
  have hk60 : sc ≤ 60 := hk60
  have p0 : F (g) = some (.inl (4, [.ref (g + 1), .ref (g + 3), .ref (g + 4), .ref (g + 5), .ref (g + 6), .int (nI (sc)), .int (nI (cc)), .int (nI (a)), .int (nI (f1)), .int (nI (f2)), .int (nI (hf))])) := p0
  refine x_aload_n hC d_Program_keepStep_0 rfl rfl ?_
  refine x_getf hC kf_Program_36 p0 rfl d_Program_keepStep_1 ?_
  refine x_bipush hC d_Program_keepStep_4 (v := nI 60) (by decide) ?_
  refine x_icmpN_ge hC d_Program_keepStep_6 (tgt := 62) (by decide) (by omega) (by omega) (fun c_6 => ?_) (fun c_6 => ?_)
  · skip
    refine hret _ _ _ _ _ _ d_Program_keepStep_62 (by decide) (by decide) ?_
    have e9 : kStep (sc, cf, fi, se, nu) c one two cc = (sc, cf, fi, se, nu) := if_neg (Nat.not_lt_of_le c_6)
    exact ⟨rfl, rfl, by rw [e9]; exact p0, by rw [e9]; exact ⟨hk60, ⟨fv, v0, hv⟩, ⟨g1, q1, w1⟩, ⟨g2, q2, w2⟩, g3, q3, w3⟩, hag⟩
  · skip
    refine x_aload_n hC d_Program_keepStep_9 rfl rfl ?_
    refine x_getf hC kf_Program_22 p0 rfl d_Program_keepStep_10 ?_
    refine x_aload_n hC d_Program_keepStep_13 rfl rfl ?_
    refine x_getf hC kf_Program_36 p0 rfl d_Program_keepStep_14 ?_
    refine x_aload_n hC d_Program_keepStep_17 rfl rfl ?_
    refine x_astS hC v0 (by decide) rfl (hCM.2.2.1 c hc) (j := sc) ⟨rfl, by omega, by omega⟩ d_Program_keepStep_18 (f1 := updV fv (sc) (.ref (cm.2.1 c))) rfl ?_
    generalize eu0 : updV fv (sc) (.ref (cm.2.1 c)) = u0
    generalize e2 : xup F (g + 3) (.inr (6, 60, u0)) = F2
    have p0 : F2 (g) = some (.inl (4, [.ref (g + 1), .ref (g + 3), .ref (g + 4), .ref (g + 5), .ref (g + 6), .int (nI (sc)), .int (nI (cc)), .int (nI (a)), .int (nI (f1)), .int (nI (f2)), .int (nI (hf))])) := by rw [← e2]; exact (xup_ne (by omega)).trans p0
    have v0 : F2 (g + 3) = some (.inr (6, 60, u0)) := by rw [← e2]; exact xup_eq
    have q1 : F2 (g + 4) = some (.inr (0, 60, fun b9 => .int (nI (g1 b9)))) := by rw [← e2]; exact (xup_ne (by omega)).trans q1
    have q2 : F2 (g + 5) = some (.inr (0, 60, fun b9 => .int (nI (g2 b9)))) := by rw [← e2]; exact (xup_ne (by omega)).trans q2
    have q3 : F2 (g + 6) = some (.inr (0, 60, fun b9 => .int (nI (g3 b9)))) := by rw [← e2]; exact (xup_ne (by omega)).trans q3
    have hag : ∀ a9 : Nat, (a9 < g ∨ g + 1 ≤ a9) → (a9 < g + 3 ∨ g + 3 + 4 ≤ a9) → F2 a9 = F a9 := fun a9 q0 q1 => by rw [← e2]; exact (xup_ne (by omega)).trans (hag a9 q0 q1)
    refine x_aload_n hC d_Program_keepStep_19 rfl rfl ?_
    refine x_getf hC kf_Program_26 p0 rfl d_Program_keepStep_20 ?_
    refine x_aload_n hC d_Program_keepStep_23 rfl rfl ?_
    refine x_getf hC kf_Program_36 p0 rfl d_Program_keepStep_24 ?_
    refine x_iload_n hC d_Program_keepStep_27 rfl rfl ?_
    refine x_iast hC q1 (j := sc) ⟨rfl, by omega, by omega⟩ d_Program_keepStep_28 (g1 := fun b9 => nI (updN g1 (sc) (one) b9)) (x_updN _ _ _) ?_
    generalize eu1 : updN g1 (sc) (one) = u1
    generalize e4 : xup F2 (g + 4) (.inr (0, 60, fun b9 => .int (nI (u1 b9)))) = F4
    have p0 : F4 (g) = some (.inl (4, [.ref (g + 1), .ref (g + 3), .ref (g + 4), .ref (g + 5), .ref (g + 6), .int (nI (sc)), .int (nI (cc)), .int (nI (a)), .int (nI (f1)), .int (nI (f2)), .int (nI (hf))])) := by rw [← e4]; exact (xup_ne (by omega)).trans p0
    have v0 : F4 (g + 3) = some (.inr (6, 60, u0)) := by rw [← e4]; exact (xup_ne (by omega)).trans v0
    have q1 : F4 (g + 4) = some (.inr (0, 60, fun b9 => .int (nI (u1 b9)))) := by rw [← e4]; exact xup_eq
    have q2 : F4 (g + 5) = some (.inr (0, 60, fun b9 => .int (nI (g2 b9)))) := by rw [← e4]; exact (xup_ne (by omega)).trans q2
    have q3 : F4 (g + 6) = some (.inr (0, 60, fun b9 => .int (nI (g3 b9)))) := by rw [← e4]; exact (xup_ne (by omega)).trans q3
    have hag : ∀ a9 : Nat, (a9 < g ∨ g + 1 ≤ a9) → (a9 < g + 3 ∨ g + 3 + 4 ≤ a9) → F4 a9 = F a9 := fun a9 q0 q1 => by rw [← e4]; exact (xup_ne (by omega)).trans (hag a9 q0 q1)
    refine x_aload_n hC d_Program_keepStep_29 rfl rfl ?_
    refine x_getf hC kf_Program_30 p0 rfl d_Program_keepStep_30 ?_
    refine x_aload_n hC d_Program_keepStep_33 rfl rfl ?_
    refine x_getf hC kf_Program_36 p0 rfl d_Program_keepStep_34 ?_
    refine x_iload_n hC d_Program_keepStep_37 rfl rfl ?_
    refine x_iast hC q2 (j := sc) ⟨rfl, by omega, by omega⟩ d_Program_keepStep_38 (g1 := fun b9 => nI (updN g2 (sc) (two) b9)) (x_updN _ _ _) ?_
    generalize eu2 : updN g2 (sc) (two) = u2
    generalize e6 : xup F4 (g + 5) (.inr (0, 60, fun b9 => .int (nI (u2 b9)))) = F6
    have p0 : F6 (g) = some (.inl (4, [.ref (g + 1), .ref (g + 3), .ref (g + 4), .ref (g + 5), .ref (g + 6), .int (nI (sc)), .int (nI (cc)), .int (nI (a)), .int (nI (f1)), .int (nI (f2)), .int (nI (hf))])) := by rw [← e6]; exact (xup_ne (by omega)).trans p0
    have v0 : F6 (g + 3) = some (.inr (6, 60, u0)) := by rw [← e6]; exact (xup_ne (by omega)).trans v0
    have q1 : F6 (g + 4) = some (.inr (0, 60, fun b9 => .int (nI (u1 b9)))) := by rw [← e6]; exact (xup_ne (by omega)).trans q1
    have q2 : F6 (g + 5) = some (.inr (0, 60, fun b9 => .int (nI (u2 b9)))) := by rw [← e6]; exact xup_eq
    have q3 : F6 (g + 6) = some (.inr (0, 60, fun b9 => .int (nI (g3 b9)))) := by rw [← e6]; exact (xup_ne (by omega)).trans q3
    have hag : ∀ a9 : Nat, (a9 < g ∨ g + 1 ≤ a9) → (a9 < g + 3 ∨ g + 3 + 4 ≤ a9) → F6 a9 = F a9 := fun a9 q0 q1 => by rw [← e6]; exact (xup_ne (by omega)).trans (hag a9 q0 q1)
    refine x_aload_n hC d_Program_keepStep_39 rfl rfl ?_
    refine x_getf hC kf_Program_33 p0 rfl d_Program_keepStep_40 ?_
    refine x_aload_n hC d_Program_keepStep_43 rfl rfl ?_
    refine x_getf hC kf_Program_36 p0 rfl d_Program_keepStep_44 ?_
    refine x_aload_n hC d_Program_keepStep_47 rfl rfl ?_
    refine x_getf hC kf_Program_40 p0 rfl d_Program_keepStep_48 ?_
    refine x_iast hC q3 (j := sc) ⟨rfl, by omega, by omega⟩ d_Program_keepStep_51 (g1 := fun b9 => nI (updN g3 (sc) (cc) b9)) (x_updN _ _ _) ?_
    generalize eu3 : updN g3 (sc) (cc) = u3
    generalize e8 : xup F6 (g + 6) (.inr (0, 60, fun b9 => .int (nI (u3 b9)))) = F8
    have p0 : F8 (g) = some (.inl (4, [.ref (g + 1), .ref (g + 3), .ref (g + 4), .ref (g + 5), .ref (g + 6), .int (nI (sc)), .int (nI (cc)), .int (nI (a)), .int (nI (f1)), .int (nI (f2)), .int (nI (hf))])) := by rw [← e8]; exact (xup_ne (by omega)).trans p0
    have v0 : F8 (g + 3) = some (.inr (6, 60, u0)) := by rw [← e8]; exact (xup_ne (by omega)).trans v0
    have q1 : F8 (g + 4) = some (.inr (0, 60, fun b9 => .int (nI (u1 b9)))) := by rw [← e8]; exact (xup_ne (by omega)).trans q1
    have q2 : F8 (g + 5) = some (.inr (0, 60, fun b9 => .int (nI (u2 b9)))) := by rw [← e8]; exact (xup_ne (by omega)).trans q2
    have q3 : F8 (g + 6) = some (.inr (0, 60, fun b9 => .int (nI (u3 b9)))) := by rw [← e8]; exact xup_eq
    have hag : ∀ a9 : Nat, (a9 < g ∨ g + 1 ≤ a9) → (a9 < g + 3 ∨ g + 3 + 4 ≤ a9) → F8 a9 = F a9 := fun a9 q0 q1 => by rw [← e8]; exact (xup_ne (by omega)).trans (hag a9 q0 q1)
    refine x_aload_n hC d_Program_keepStep_52 rfl rfl ?_
    refine x_dup hC d_Program_keepStep_53 rfl ?_
    refine x_getf hC kf_Program_36 p0 rfl d_Program_keepStep_54 ?_
    refine x_iconst hC d_Program_keepStep_57 (v := nI 1) (by decide) ?_
    refine x_iadd hC d_Program_keepStep_58 (v := (nI (sc + 1))) (x_addN (by omega)) ?_
    refine x_putf hC kf_Program_36 p0 (Nat.le_of_ble_eq_true rfl) rfl rfl d_Program_keepStep_59 (fs1 := [.ref (g + 1), .ref (g + 3), .ref (g + 4), .ref (g + 5), .ref (g + 6), .int (nI (sc + 1)), .int (nI (cc)), .int (nI (a)), .int (nI (f1)), .int (nI (f2)), .int (nI (hf))]) rfl ?_
    generalize e9 : xup F8 (g) (.inl (4, [.ref (g + 1), .ref (g + 3), .ref (g + 4), .ref (g + 5), .ref (g + 6), .int (nI (sc + 1)), .int (nI (cc)), .int (nI (a)), .int (nI (f1)), .int (nI (f2)), .int (nI (hf))])) = F9
    have p0 : F9 (g) = some (.inl (4, [.ref (g + 1), .ref (g + 3), .ref (g + 4), .ref (g + 5), .ref (g + 6), .int (nI (sc + 1)), .int (nI (cc)), .int (nI (a)), .int (nI (f1)), .int (nI (f2)), .int (nI (hf))])) := by rw [← e9]; exact xup_eq
    have v0 : F9 (g + 3) = some (.inr (6, 60, u0)) := by rw [← e9]; exact (xup_ne (by omega)).trans v0
    have q1 : F9 (g + 4) = some (.inr (0, 60, fun b9 => .int (nI (u1 b9)))) := by rw [← e9]; exact (xup_ne (by omega)).trans q1
    have q2 : F9 (g + 5) = some (.inr (0, 60, fun b9 => .int (nI (u2 b9)))) := by rw [← e9]; exact (xup_ne (by omega)).trans q2
    have q3 : F9 (g + 6) = some (.inr (0, 60, fun b9 => .int (nI (u3 b9)))) := by rw [← e9]; exact (xup_ne (by omega)).trans q3
    have hag : ∀ a9 : Nat, (a9 < g ∨ g + 1 ≤ a9) → (a9 < g + 3 ∨ g + 3 + 4 ≤ a9) → F9 a9 = F a9 := fun a9 q0 q1 => by rw [← e9]; exact (xup_ne (by omega)).trans (hag a9 q0 q1)
    refine hret _ _ _ _ _ _ d_Program_keepStep_62 (by decide) (by decide) ?_
    have e9 : kStep (sc, cf, fi, se, nu) c one two cc = (sc + 1, updN cf sc c, updN fi sc one, updN se sc two, updN nu sc cc) := if_pos c_6
    exact ⟨rfl, rfl, by rw [e9]; exact p0, by rw [e9]; exact ⟨c_6, ⟨u0, v0, by rw [← eu0]; exact upd_cmd hv hc⟩, ⟨u1, q1, by rw [← eu1]; exact upd_row w1⟩, ⟨u2, q2, by rw [← eu2]; exact upd_row w2⟩, u3, q3, by rw [← eu3]; exact upd_row w3⟩, hag⟩

theorem d_Program_keepCommand_0 : decode prog_8_method_12_code 0 = .ok (.aload_n 1, 1) := by decide +kernel
theorem d_Program_keepCommand_1 : decode prog_8_method_12_code 1 = .ok (.getstatic 121, 3) := by decide +kernel
theorem d_Program_keepCommand_4 : decode prog_8_method_12_code 4 = .ok (.if_acmp .ne 39, 3) := by decide +kernel
theorem d_Program_keepCommand_7 : decode prog_8_method_12_code 7 = .ok (.aload_n 0, 1) := by decide +kernel
theorem d_Program_keepCommand_8 : decode prog_8_method_12_code 8 = .ok (.getfield 82, 3) := by decide +kernel
theorem d_Program_keepCommand_11 : decode prog_8_method_12_code 11 = .ok (.istore_n 2, 1) := by decide +kernel
theorem d_Program_keepCommand_12 : decode prog_8_method_12_code 12 = .ok (.iload_n 2, 1) := by decide +kernel
theorem d_Program_keepCommand_13 : decode prog_8_method_12_code 13 = .ok (.aload_n 0, 1) := by decide +kernel
theorem d_Program_keepCommand_14 : decode prog_8_method_12_code 14 = .ok (.getfield 85, 3) := by decide +kernel
theorem d_Program_keepCommand_17 : decode prog_8_method_12_code 17 = .ok (.if_icmp .ge 23, 3) := by decide +kernel
theorem d_Program_keepCommand_20 : decode prog_8_method_12_code 20 = .ok (.aload_n 0, 1) := by decide +kernel
theorem d_Program_keepCommand_21 : decode prog_8_method_12_code 21 = .ok (.aload_n 1, 1) := by decide +kernel
theorem d_Program_keepCommand_22 : decode prog_8_method_12_code 22 = .ok (.aload_n 0, 1) := by decide +kernel
theorem d_Program_keepCommand_23 : decode prog_8_method_12_code 23 = .ok (.getfield 14, 3) := by decide +kernel
theorem d_Program_keepCommand_26 : decode prog_8_method_12_code 26 = .ok (.iload_n 2, 1) := by decide +kernel
theorem d_Program_keepCommand_27 : decode prog_8_method_12_code 27 = .ok (.invokevirtual 110, 3) := by decide +kernel
theorem d_Program_keepCommand_30 : decode prog_8_method_12_code 30 = .ok (.iconst 0, 1) := by decide +kernel
theorem d_Program_keepCommand_31 : decode prog_8_method_12_code 31 = .ok (.invokevirtual 125, 3) := by decide +kernel
theorem d_Program_keepCommand_34 : decode prog_8_method_12_code 34 = .ok (.iinc 2 1, 3) := by decide +kernel
theorem d_Program_keepCommand_37 : decode prog_8_method_12_code 37 = .ok (.goto (-25), 3) := by decide +kernel
theorem d_Program_keepCommand_40 : decode prog_8_method_12_code 40 = .ok (.goto 16, 3) := by decide +kernel
theorem d_Program_keepCommand_43 : decode prog_8_method_12_code 43 = .ok (.aload_n 0, 1) := by decide +kernel
theorem d_Program_keepCommand_44 : decode prog_8_method_12_code 44 = .ok (.aload_n 1, 1) := by decide +kernel
theorem d_Program_keepCommand_45 : decode prog_8_method_12_code 45 = .ok (.aload_n 0, 1) := by decide +kernel
theorem d_Program_keepCommand_46 : decode prog_8_method_12_code 46 = .ok (.getfield 82, 3) := by decide +kernel
theorem d_Program_keepCommand_49 : decode prog_8_method_12_code 49 = .ok (.aload_n 0, 1) := by decide +kernel
theorem d_Program_keepCommand_50 : decode prog_8_method_12_code 50 = .ok (.getfield 85, 3) := by decide +kernel
theorem d_Program_keepCommand_53 : decode prog_8_method_12_code 53 = .ok (.invokevirtual 125, 3) := by decide +kernel
theorem d_Program_keepCommand_56 : decode prog_8_method_12_code 56 = .ok (.aload_n 0, 1) := by decide +kernel
theorem d_Program_keepCommand_57 : decode prog_8_method_12_code 57 = .ok (.dup, 1) := by decide +kernel
theorem d_Program_keepCommand_58 : decode prog_8_method_12_code 58 = .ok (.getfield 40, 3) := by decide +kernel
theorem d_Program_keepCommand_61 : decode prog_8_method_12_code 61 = .ok (.iconst 1, 1) := by decide +kernel
theorem d_Program_keepCommand_62 : decode prog_8_method_12_code 62 = .ok (.iadd, 1) := by decide +kernel
theorem d_Program_keepCommand_63 : decode prog_8_method_12_code 63 = .ok (.putfield 40, 3) := by decide +kernel
theorem d_Program_keepCommand_66 : decode prog_8_method_12_code 66 = .ok (.return_, 1) := by decide +kernel
set_option maxHeartbeats 4000000 in
set_option maxRecDepth 20000 in
theorem c_Program_keepCommand {P : xP} {F : xF} {z : Nat} {g : Nat} {cc : Nat} {a : Nat} {f1 : Nat} {f2 : Nat} {hf : Nat} {n : Nat} {s : Nat → Nat} {K : kS} {cm : cmT} {c : Nat} (p0 : F (g) = some (.inl (4, [.ref (g + 1), .ref (g + 3), .ref (g + 4), .ref (g + 5), .ref (g + 6), .int (nI (K.1)), .int (nI (cc)), .int (nI (a)), .int (nI (f1)), .int (nI (f2)), .int (nI (hf))]))) (ht : xTx F (g + 1) (60) (n) (s)) (hK : xPk F (g) (cm.2.1) (K)) (hc : c < 10) (hCM : xCM P cm) (hcc : cc < 1000) (hf1 : f1 ≤ 1000) (hf2 : f2 ≤ 1000) : xM P xy_Program_keepCommand [.ref g, .ref (cm.2.1 c)] F (z) 0 0 (fun r9 F9 z9 => r9 = none ∧ z9 = z ∧ F9 (g) = some (.inl (4, [.ref (g + 1), .ref (g + 3), .ref (g + 4), .ref (g + 5), .ref (g + 6), .int (nI ((kCmd n s K c f1 f2 cc).1)), .int (nI (cc + 1)), .int (nI (a)), .int (nI (f1)), .int (nI (f2)), .int (nI (hf))])) ∧ xPk F9 (g) (cm.2.1) ((kCmd n s K c f1 f2 cc)) ∧ (∀ a9 : Nat, (a9 < g ∨ g + 1 ≤ a9) → (a9 < g + 3 ∨ g + 3 + 4 ≤ a9) → F9 a9 = F a9)) := by
  refine xM_v rfl (Nat.le_of_ble_eq_true rfl) (L0 := [some (.ref g), some (.ref (cm.2.1 c)), none]) rfl rfl fun Θ hC hin hret => ?_
  have hag : ∀ a9 : Nat, (a9 < g ∨ g + 1 ≤ a9) → (a9 < g + 3 ∨ g + 3 + 4 ≤ a9) → F a9 = F a9 := fun a9 _ _ => rfl
  refine x_aload_n hC d_Program_keepCommand_0 rfl rfl ?_
  refine x_gets hC (v := .ref (cm.2.1 1)) (hCM.2.2.2.2.2.2.2 1 (by decide)) (x_in (x_of (xtb_6 (List.mem_of_getElem? (i := 155) (by decide +kernel)))) (by decide +kernel)) d_Program_keepCommand_1 ?_
  refine x_acmp_ne hC d_Program_keepCommand_4 (tgt := 43) (by decide) (fun c_4 => ?_) (fun c_4 => ?_)
  · skip
    have hc1 : ¬ c = 1 := fun e => c_4 (by rw [e])
    have hke : kCmd n s K c f1 f2 cc = kStep K c f1 f2 cc := if_neg hc1
    refine x_aload_n hC d_Program_keepCommand_43 rfl rfl ?_
    refine x_aload_n hC d_Program_keepCommand_44 rfl rfl ?_
    refine x_aload_n hC d_Program_keepCommand_45 rfl rfl ?_
    refine x_getf hC kf_Program_82 p0 rfl d_Program_keepCommand_46 ?_
    refine x_aload_n hC d_Program_keepCommand_49 rfl rfl ?_
    refine x_getf hC kf_Program_85 p0 rfl d_Program_keepCommand_50 ?_
    refine x_callV hC kv_Program_125 (c_Program_keepStep (p0 := p0) (hK := hK) (hc := hc) (hCM := hCM) (c := c)) p0 rfl rfl (by decide) rfl rfl rfl (Nat.le_of_ble_eq_true rfl) (by decide) d_Program_keepCommand_53 (fun r9 F9 z9 hp9 => ?_)
    obtain ⟨rfl, h9c, j0, j1, hag9⟩ := hp9
    rw [h9c]
    clear h9c z9
    generalize F9 = F1 at *
    have ht : xTx F1 (g + 1) (60) (n) (s) := xTx_fr ht (fun a9 q1 q2 => hag9 a9 (by omega) (by omega))
    have p0 : F1 (g) = some (.inl (4, [.ref (g + 1), .ref (g + 3), .ref (g + 4), .ref (g + 5), .ref (g + 6), .int (nI ((kStep K c f1 f2 cc).1)), .int (nI (cc)), .int (nI (a)), .int (nI (f1)), .int (nI (f2)), .int (nI (hf))])) := j0
    have hK : xPk F1 (g) (cm.2.1) ((kStep K c f1 f2 cc)) := j1
    have hag : ∀ a9 : Nat, (a9 < g ∨ g + 1 ≤ a9) → (a9 < g + 3 ∨ g + 3 + 4 ≤ a9) → F1 a9 = F a9 := fun a9 q0 q1 => (hag9 a9 (by omega) (by omega)).trans (hag a9 q0 q1)
    have hg_53 := hag9
    clear hag9
    refine x_aload_n hC d_Program_keepCommand_56 rfl rfl ?_
    refine x_dup hC d_Program_keepCommand_57 rfl ?_
    refine x_getf hC kf_Program_40 p0 rfl d_Program_keepCommand_58 ?_
    refine x_iconst hC d_Program_keepCommand_61 (v := nI 1) (by decide) ?_
    refine x_iadd hC d_Program_keepCommand_62 (v := (nI (cc + 1))) (x_addN (by omega)) ?_
    refine x_putf hC kf_Program_40 p0 (Nat.le_of_ble_eq_true rfl) rfl rfl d_Program_keepCommand_63 (fs1 := [.ref (g + 1), .ref (g + 3), .ref (g + 4), .ref (g + 5), .ref (g + 6), .int (nI ((kStep K c f1 f2 cc).1)), .int (nI (cc + 1)), .int (nI (a)), .int (nI (f1)), .int (nI (f2)), .int (nI (hf))]) rfl ?_
    generalize e2 : xup F1 (g) (.inl (4, [.ref (g + 1), .ref (g + 3), .ref (g + 4), .ref (g + 5), .ref (g + 6), .int (nI ((kStep K c f1 f2 cc).1)), .int (nI (cc + 1)), .int (nI (a)), .int (nI (f1)), .int (nI (f2)), .int (nI (hf))])) = F2
    have ht : xTx F2 (g + 1) (60) (n) (s) := xTx_fr ht (fun a9 q1 q2 => by rw [← e2]; exact xup_ne (by omega))
    have p0 : F2 (g) = some (.inl (4, [.ref (g + 1), .ref (g + 3), .ref (g + 4), .ref (g + 5), .ref (g + 6), .int (nI ((kStep K c f1 f2 cc).1)), .int (nI (cc + 1)), .int (nI (a)), .int (nI (f1)), .int (nI (f2)), .int (nI (hf))])) := by rw [← e2]; exact xup_eq
    have hK : xPk F2 (g) (cm.2.1) ((kStep K c f1 f2 cc)) := xPk_fr hK (fun a9 q1 q2 => by rw [← e2]; exact xup_ne (by omega))
    have hag : ∀ a9 : Nat, (a9 < g ∨ g + 1 ≤ a9) → (a9 < g + 3 ∨ g + 3 + 4 ≤ a9) → F2 a9 = F a9 := fun a9 q0 q1 => by rw [← e2]; exact (xup_ne (by omega)).trans (hag a9 q0 q1)
    refine hret _ _ _ _ _ _ d_Program_keepCommand_66 (by decide) (by decide) ?_
    rw [← hke] at p0 hK
    exact ⟨rfl, rfl, p0, hK, hag⟩
  · skip
    have hc1 : c = 1 := hCM.2.2.2.2.2.2.1 c hc 1 (by decide) c_4
    have hke : kCmd n s K c f1 f2 cc = kDraft n s K cc f1 (f2 - f1) := if_pos hc1
    refine x_aload_n hC d_Program_keepCommand_7 rfl rfl ?_
    refine x_getf hC kf_Program_82 p0 rfl d_Program_keepCommand_8 ?_
    refine x_istore_n hC d_Program_keepCommand_11 rfl (Nat.le_of_ble_eq_true rfl) (L1 := [some (.ref g), some (.ref (cm.2.1 c)), some (.int (nI (f1)))]) rfl ?_
    have loop_12 : ∀ (m9 : Nat) (Fh12 : xF) (d : Nat), (Fh12 (g) = some (.inl (4, [.ref (g + 1), .ref (g + 3), .ref (g + 4), .ref (g + 5), .ref (g + 6), .int (nI ((kDraft n s K cc f1 d).1)), .int (nI (cc)), .int (nI (a)), .int (nI (f1)), .int (nI (f2)), .int (nI (hf))]))) → (xTx Fh12 (g + 1) (60) (n) (s)) → (xPk Fh12 (g) (cm.2.1) ((kDraft n s K cc f1 d))) → (∀ a9 : Nat, (a9 < g ∨ g + 1 ≤ a9) → (a9 < g + 3 ∨ g + 3 + 4 ≤ a9) → Fh12 a9 = F a9) → (d ≤ f2 - f1) → (f2 - f1 - d < m9) → xX P Θ 12 [some (.ref g), some (.ref (cm.2.1 c)), some (.int (nI (f1 + d)))] [] Fh12 (z) 0 0 := by
      intro m9
      induction m9 with
      | zero => intros; omega
      | succ m9 ih_12 =>
        intro Fh12 d p0 ht hK hag hd hm_12
        refine x_iload_n hC d_Program_keepCommand_12 rfl rfl ?_
        refine x_aload_n hC d_Program_keepCommand_13 rfl rfl ?_
        refine x_getf hC kf_Program_85 p0 rfl d_Program_keepCommand_14 ?_
        refine x_icmpN_ge hC d_Program_keepCommand_17 (tgt := 40) (by decide) (by omega) (by omega) (fun c_17 => ?_) (fun c_17 => ?_)
        · skip
          have hde : d = f2 - f1 := by omega
          rw [hde, ← hke] at p0 hK
          refine x_goto hC d_Program_keepCommand_40 (tgt := 56) (by decide) ?_
          refine x_aload_n hC d_Program_keepCommand_56 rfl rfl ?_
          refine x_dup hC d_Program_keepCommand_57 rfl ?_
          refine x_getf hC kf_Program_40 p0 rfl d_Program_keepCommand_58 ?_
          refine x_iconst hC d_Program_keepCommand_61 (v := nI 1) (by decide) ?_
          refine x_iadd hC d_Program_keepCommand_62 (v := (nI (cc + 1))) (x_addN (by omega)) ?_
          refine x_putf hC kf_Program_40 p0 (Nat.le_of_ble_eq_true rfl) rfl rfl d_Program_keepCommand_63 (fs1 := [.ref (g + 1), .ref (g + 3), .ref (g + 4), .ref (g + 5), .ref (g + 6), .int (nI ((kCmd n s K c f1 f2 cc).1)), .int (nI (cc + 1)), .int (nI (a)), .int (nI (f1)), .int (nI (f2)), .int (nI (hf))]) rfl ?_
          generalize e3 : xup Fh12 (g) (.inl (4, [.ref (g + 1), .ref (g + 3), .ref (g + 4), .ref (g + 5), .ref (g + 6), .int (nI ((kCmd n s K c f1 f2 cc).1)), .int (nI (cc + 1)), .int (nI (a)), .int (nI (f1)), .int (nI (f2)), .int (nI (hf))])) = F3
          have p0 : F3 (g) = some (.inl (4, [.ref (g + 1), .ref (g + 3), .ref (g + 4), .ref (g + 5), .ref (g + 6), .int (nI ((kCmd n s K c f1 f2 cc).1)), .int (nI (cc + 1)), .int (nI (a)), .int (nI (f1)), .int (nI (f2)), .int (nI (hf))])) := by rw [← e3]; exact xup_eq
          have ht : xTx F3 (g + 1) (60) (n) (s) := xTx_fr ht (fun a9 q1 q2 => by rw [← e3]; exact xup_ne (by omega))
          have hK : xPk F3 (g) (cm.2.1) ((kCmd n s K c f1 f2 cc)) := xPk_fr hK (fun a9 q1 q2 => by rw [← e3]; exact xup_ne (by omega))
          have hag : ∀ a9 : Nat, (a9 < g ∨ g + 1 ≤ a9) → (a9 < g + 3 ∨ g + 3 + 4 ≤ a9) → F3 a9 = F a9 := fun a9 q0 q1 => by rw [← e3]; exact (xup_ne (by omega)).trans (hag a9 q0 q1)
          exact hret _ _ _ _ _ _ d_Program_keepCommand_66 (by decide) (by decide) (⟨rfl, rfl, p0, hK, hag⟩)
        · skip
          refine x_aload_n hC d_Program_keepCommand_20 rfl rfl ?_
          refine x_aload_n hC d_Program_keepCommand_21 rfl rfl ?_
          refine x_aload_n hC d_Program_keepCommand_22 rfl rfl ?_
          refine x_getf hC kf_Program_14 p0 rfl d_Program_keepCommand_23 ?_
          refine x_iload_n hC d_Program_keepCommand_26 rfl rfl ?_
          refine x_callV hC kv_Program_110 (c_Text_at (ht := ht) (hi := by omega)) ht.1 rfl rfl (by decide) rfl rfl rfl (Nat.le_of_ble_eq_true rfl) (by decide) d_Program_keepCommand_27 (fun r9 F9 z9 hp9 => ?_)
          obtain ⟨rfl, h9b, h9c⟩ := hp9
          rw [h9b, h9c]
          clear h9b h9c F9 z9
          refine x_iconst hC d_Program_keepCommand_30 (v := nI 0) (by decide) ?_
          refine x_callV hC kv_Program_125 (c_Program_keepStep (p0 := p0) (hK := hK) (hc := hc) (hCM := hCM) (c := c)) p0 rfl rfl (by decide) rfl rfl rfl (Nat.le_of_ble_eq_true rfl) (by decide) d_Program_keepCommand_31 (fun r9 F9 z9 hp9 => ?_)
          obtain ⟨rfl, h9c, j0, j1, hag9⟩ := hp9
          rw [h9c]
          clear h9c z9
          generalize F9 = F4 at *
          have ht : xTx F4 (g + 1) (60) (n) (s) := xTx_fr ht (fun a9 q1 q2 => hag9 a9 (by omega) (by omega))
          have p0 : F4 (g) = some (.inl (4, [.ref (g + 1), .ref (g + 3), .ref (g + 4), .ref (g + 5), .ref (g + 6), .int (nI ((kStep (kDraft n s K cc f1 d) c (if (f1 + d) < n then s (f1 + d) else 0) 0 cc).1)), .int (nI (cc)), .int (nI (a)), .int (nI (f1)), .int (nI (f2)), .int (nI (hf))])) := j0
          have hK : xPk F4 (g) (cm.2.1) ((kStep (kDraft n s K cc f1 d) c (if (f1 + d) < n then s (f1 + d) else 0) 0 cc)) := j1
          have hag : ∀ a9 : Nat, (a9 < g ∨ g + 1 ≤ a9) → (a9 < g + 3 ∨ g + 3 + 4 ≤ a9) → F4 a9 = F a9 := fun a9 q0 q1 => (hag9 a9 (by omega) (by omega)).trans (hag a9 q0 q1)
          have hg_31 := hag9
          clear hag9
          have hkd : kDraft n s K cc f1 (d + 1) = kStep (kDraft n s K cc f1 d) c (if f1 + d < n then s (f1 + d) else 0) 0 cc := by rw [hc1]; rfl
          rw [← hkd] at p0 hK
          refine x_iinc hC d_Program_keepCommand_34 rfl (v := (nI (f1 + d + 1))) (x_incN 1) (Nat.le_of_ble_eq_true rfl) (L1 := [some (.ref g), some (.ref (cm.2.1 c)), some (.int (nI (f1 + d + 1)))]) rfl ?_
          refine x_goto hC d_Program_keepCommand_37 (tgt := 12) (by decide) ?_
          exact ih_12 F4 (d + 1) p0 ht hK hag (by omega) (by omega)
    exact loop_12 (f2 - f1 - 0 + 1) F (0) p0 ht hK hag (by omega) (by omega)

theorem d_Program_readsCommand_0 : decode prog_8_method_3_code 0 = .ok (.aload_n 0, 1) := by decide +kernel
theorem d_Program_readsCommand_1 : decode prog_8_method_3_code 1 = .ok (.getfield 43, 3) := by decide +kernel
theorem d_Program_readsCommand_4 : decode prog_8_method_3_code 4 = .ok (.istore_n 1, 1) := by decide +kernel
theorem d_Program_readsCommand_5 : decode prog_8_method_3_code 5 = .ok (.aload_n 0, 1) := by decide +kernel
theorem d_Program_readsCommand_6 : decode prog_8_method_3_code 6 = .ok (.getfield 43, 3) := by decide +kernel
theorem d_Program_readsCommand_9 : decode prog_8_method_3_code 9 = .ok (.istore_n 2, 1) := by decide +kernel
theorem d_Program_readsCommand_10 : decode prog_8_method_3_code 10 = .ok (.iconst 0, 1) := by decide +kernel
theorem d_Program_readsCommand_11 : decode prog_8_method_3_code 11 = .ok (.istore_n 3, 1) := by decide +kernel
theorem d_Program_readsCommand_12 : decode prog_8_method_3_code 12 = .ok (.iload_n 3, 1) := by decide +kernel
theorem d_Program_readsCommand_13 : decode prog_8_method_3_code 13 = .ok (.getstatic 57, 3) := by decide +kernel
theorem d_Program_readsCommand_16 : decode prog_8_method_3_code 16 = .ok (.arraylength, 1) := by decide +kernel
theorem d_Program_readsCommand_17 : decode prog_8_method_3_code 17 = .ok (.if_icmp .ge 49, 3) := by decide +kernel
theorem d_Program_readsCommand_20 : decode prog_8_method_3_code 20 = .ok (.aload_n 0, 1) := by decide +kernel
theorem d_Program_readsCommand_21 : decode prog_8_method_3_code 21 = .ok (.iload_n 1, 1) := by decide +kernel
theorem d_Program_readsCommand_22 : decode prog_8_method_3_code 22 = .ok (.putfield 43, 3) := by decide +kernel
theorem d_Program_readsCommand_25 : decode prog_8_method_3_code 25 = .ok (.aload_n 0, 1) := by decide +kernel
theorem d_Program_readsCommand_26 : decode prog_8_method_3_code 26 = .ok (.getstatic 57, 3) := by decide +kernel
theorem d_Program_readsCommand_29 : decode prog_8_method_3_code 29 = .ok (.iload_n 3, 1) := by decide +kernel
theorem d_Program_readsCommand_30 : decode prog_8_method_3_code 30 = .ok (.aaload, 1) := by decide +kernel
theorem d_Program_readsCommand_31 : decode prog_8_method_3_code 31 = .ok (.getfield 60, 3) := by decide +kernel
theorem d_Program_readsCommand_34 : decode prog_8_method_3_code 34 = .ok (.invokevirtual 64, 3) := by decide +kernel
theorem d_Program_readsCommand_37 : decode prog_8_method_3_code 37 = .ok (.ifCond .eq 14, 3) := by decide +kernel
theorem d_Program_readsCommand_40 : decode prog_8_method_3_code 40 = .ok (.aload_n 0, 1) := by decide +kernel
theorem d_Program_readsCommand_41 : decode prog_8_method_3_code 41 = .ok (.getstatic 57, 3) := by decide +kernel
theorem d_Program_readsCommand_44 : decode prog_8_method_3_code 44 = .ok (.iload_n 3, 1) := by decide +kernel
theorem d_Program_readsCommand_45 : decode prog_8_method_3_code 45 = .ok (.aaload, 1) := by decide +kernel
theorem d_Program_readsCommand_46 : decode prog_8_method_3_code 46 = .ok (.invokevirtual 68, 3) := by decide +kernel
theorem d_Program_readsCommand_49 : decode prog_8_method_3_code 49 = .ok (.iconst 1, 1) := by decide +kernel
theorem d_Program_readsCommand_50 : decode prog_8_method_3_code 50 = .ok (.ireturn, 1) := by decide +kernel
theorem d_Program_readsCommand_51 : decode prog_8_method_3_code 51 = .ok (.iload_n 2, 1) := by decide +kernel
theorem d_Program_readsCommand_52 : decode prog_8_method_3_code 52 = .ok (.aload_n 0, 1) := by decide +kernel
theorem d_Program_readsCommand_53 : decode prog_8_method_3_code 53 = .ok (.getfield 43, 3) := by decide +kernel
theorem d_Program_readsCommand_56 : decode prog_8_method_3_code 56 = .ok (.invokestatic 72, 3) := by decide +kernel
theorem d_Program_readsCommand_59 : decode prog_8_method_3_code 59 = .ok (.istore_n 2, 1) := by decide +kernel
theorem d_Program_readsCommand_60 : decode prog_8_method_3_code 60 = .ok (.iinc 3 1, 3) := by decide +kernel
theorem d_Program_readsCommand_63 : decode prog_8_method_3_code 63 = .ok (.goto (-51), 3) := by decide +kernel
theorem d_Program_readsCommand_66 : decode prog_8_method_3_code 66 = .ok (.aload_n 0, 1) := by decide +kernel
theorem d_Program_readsCommand_67 : decode prog_8_method_3_code 67 = .ok (.iload_n 2, 1) := by decide +kernel
theorem d_Program_readsCommand_68 : decode prog_8_method_3_code 68 = .ok (.putfield 43, 3) := by decide +kernel
theorem d_Program_readsCommand_71 : decode prog_8_method_3_code 71 = .ok (.iconst 0, 1) := by decide +kernel
theorem d_Program_readsCommand_72 : decode prog_8_method_3_code 72 = .ok (.ireturn, 1) := by decide +kernel
set_option maxHeartbeats 4000000 in
set_option maxRecDepth 20000 in
theorem c_Program_readsCommand {P : xP} {F : xF} {z : Nat} {g : Nat} {cc : Nat} {a : Nat} {f1 : Nat} {f2 : Nat} {hf : Nat} {n : Nat} {s : Nat → Nat} {K : kS} {cm : cmT} (p0 : F (g) = some (.inl (4, [.ref (g + 1), .ref (g + 3), .ref (g + 4), .ref (g + 5), .ref (g + 6), .int (nI (K.1)), .int (nI (cc)), .int (nI (a)), .int (nI (f1)), .int (nI (f2)), .int (nI (hf))]))) (ht : xTx F (g + 1) (60) (n) (s)) (hK : xPk F (g) (cm.2.1) (K)) (ha : a ≤ n) (hCM : xCM P cm) (hcc : cc < 1000) : xM P xy_Program_readsCommand [.ref g] F (z) 0 0 (fun r9 F9 z9 => ∃ a1 : Nat, ∃ x1 : Nat, ∃ x2 : Nat, ∃ x3 : Nat, ∃ K1 : kS, ∃ cc1 : Nat, r9 = some (.int (xb ((pCmd n s a 10).1 < 10))) ∧ z9 = z ∧ F9 (g) = some (.inl (4, [.ref (g + 1), .ref (g + 3), .ref (g + 4), .ref (g + 5), .ref (g + 6), .int (nI (K1.1)), .int (nI (cc1)), .int (nI (a1)), .int (nI (x1)), .int (nI (x2)), .int (nI (x3))])) ∧ xPk F9 (g) (cm.2.1) (K1) ∧ ((pCmd n s a 10).1 < 10 → a1 = rdA n s a ∧ K1 = rdK n s K a cc ∧ cc1 = cc + 1) ∧ (¬ (pCmd n s a 10).1 < 10 → a1 = (pCmd n s a 10).2 ∧ K1 = K ∧ cc1 = cc) ∧ ((pCmd n s a 10).1 < 10 → pB n (a1, x1, x2, x3)) ∧ (∀ a9 : Nat, (a9 < g ∨ g + 1 ≤ a9) → (a9 < g + 3 ∨ g + 3 + 4 ≤ a9) → F9 a9 = F a9)) := by
  refine xM_i .boolean rfl (Nat.le_of_ble_eq_true rfl) (L0 := [some (.ref g), none, none, none]) rfl rfl fun Θ hC hret => ?_
  have hag : ∀ a9 : Nat, (a9 < g ∨ g + 1 ≤ a9) → (a9 < g + 3 ∨ g + 3 + 4 ≤ a9) → F a9 = F a9 := fun a9 _ _ => rfl
  have hn60 : n ≤ 60 := ht.2.1.1
  refine x_aload_n hC d_Program_readsCommand_0 rfl rfl ?_
  refine x_getf hC kf_Program_43 p0 rfl d_Program_readsCommand_1 ?_
  refine x_istore_n hC d_Program_readsCommand_4 rfl (Nat.le_of_ble_eq_true rfl) (L1 := [some (.ref g), some (.int (nI (a))), none, none]) rfl ?_
  refine x_aload_n hC d_Program_readsCommand_5 rfl rfl ?_
  refine x_getf hC kf_Program_43 p0 rfl d_Program_readsCommand_6 ?_
  refine x_istore_n hC d_Program_readsCommand_9 rfl (Nat.le_of_ble_eq_true rfl) (L1 := [some (.ref g), some (.int (nI (a))), some (.int (nI (a))), none]) rfl ?_
  refine x_iconst hC d_Program_readsCommand_10 (v := nI 0) (by decide) ?_
  refine x_istore_n hC d_Program_readsCommand_11 rfl (Nat.le_of_ble_eq_true rfl) (L1 := [some (.ref g), some (.int (nI (a))), some (.int (nI (a))), some (.int (nI 0))]) rfl ?_
  have loop_12 : ∀ (m9 : Nat) (Fh12 : xF) (c : Nat) (fu : Nat) (b1 : Nat) (y1 : Nat) (y2 : Nat) (y3 : Nat), (Fh12 (g) = some (.inl (4, [.ref (g + 1), .ref (g + 3), .ref (g + 4), .ref (g + 5), .ref (g + 6), .int (nI (K.1)), .int (nI (cc)), .int (nI (b1)), .int (nI (y1)), .int (nI (y2)), .int (nI (y3))]))) → (xTx Fh12 (g + 1) (60) (n) (s)) → (xPk Fh12 (g) (cm.2.1) (K)) → (∀ a9 : Nat, (a9 < g ∨ g + 1 ≤ a9) → (a9 < g + 3 ∨ g + 3 + 4 ≤ a9) → Fh12 a9 = F a9) → (c ≤ 10) → (pCmd n s a c = (c, fu)) → (10 - c < m9) → xX P Θ 12 [some (.ref g), some (.int (nI (a))), some (.int (nI (fu))), some (.int (nI (c)))] [] Fh12 (z) 0 0 := by
    intro m9
    induction m9 with
    | zero => intros; omega
    | succ m9 ih_12 =>
      intro Fh12 c fu b1 y1 y2 y3 p0 ht hK hag hc kc hm_12
      have hfu : fu ≤ n := by have h9 := (pCmd_le (s := s) hn60 ha c hc).2; rw [kc] at h9; exact h9
      refine x_iload_n hC d_Program_readsCommand_12 rfl rfl ?_
      refine x_getsN hC (host := "MessageCoder") (v := .ref (cm.1)) hCM.1 (x_inN (xtb_6 (List.mem_of_getElem? (i := 68) (by decide +kernel))) (by decide +kernel)) d_Program_readsCommand_13 ?_
      refine x_stlen hC hCM.2.1 (v := (nI (10))) rfl d_Program_readsCommand_16 ?_
      refine x_icmpN_ge hC d_Program_readsCommand_17 (tgt := 66) (by decide) (by omega) (by omega) (fun c_17 => ?_) (fun c_17 => ?_)
      · skip
        refine x_aload_n hC d_Program_readsCommand_66 rfl rfl ?_
        refine x_iload_n hC d_Program_readsCommand_67 rfl rfl ?_
        refine x_putf hC kf_Program_43 p0 (Nat.le_of_ble_eq_true rfl) rfl rfl d_Program_readsCommand_68 (fs1 := [.ref (g + 1), .ref (g + 3), .ref (g + 4), .ref (g + 5), .ref (g + 6), .int (nI (K.1)), .int (nI (cc)), .int (nI (fu)), .int (nI (y1)), .int (nI (y2)), .int (nI (y3))]) rfl ?_
        generalize e1 : xup Fh12 (g) (.inl (4, [.ref (g + 1), .ref (g + 3), .ref (g + 4), .ref (g + 5), .ref (g + 6), .int (nI (K.1)), .int (nI (cc)), .int (nI (fu)), .int (nI (y1)), .int (nI (y2)), .int (nI (y3))])) = F1
        have p0 : F1 (g) = some (.inl (4, [.ref (g + 1), .ref (g + 3), .ref (g + 4), .ref (g + 5), .ref (g + 6), .int (nI (K.1)), .int (nI (cc)), .int (nI (fu)), .int (nI (y1)), .int (nI (y2)), .int (nI (y3))])) := by rw [← e1]; exact xup_eq
        have ht : xTx F1 (g + 1) (60) (n) (s) := xTx_fr ht (fun a9 q1 q2 => by rw [← e1]; exact xup_ne (by omega))
        have hK : xPk F1 (g) (cm.2.1) (K) := xPk_fr hK (fun a9 q1 q2 => by rw [← e1]; exact xup_ne (by omega))
        have hag : ∀ a9 : Nat, (a9 < g ∨ g + 1 ≤ a9) → (a9 < g + 3 ∨ g + 3 + 4 ≤ a9) → F1 a9 = F a9 := fun a9 q0 q1 => by rw [← e1]; exact (xup_ne (by omega)).trans (hag a9 q0 q1)
        refine x_iconst hC d_Program_readsCommand_71 (v := nI 0) (by decide) ?_
        refine hret _ _ _ _ _ _ _ d_Program_readsCommand_72 (by decide) (by decide) rfl ?_
        have e9 : pCmd n s a 10 = (10, fu) := by rw [← show c = 10 by omega]; exact kc
        exact ⟨_, _, _, _, _, _, congrArg (fun q => some (Value.int q)) (xb_f0 (fun h9 => by rw [e9] at h9; exact absurd h9 (Nat.lt_irrefl 10))), rfl, p0, hK, fun h9 => by rw [e9] at h9; exact absurd h9 (Nat.lt_irrefl 10), fun _ => ⟨by rw [e9], rfl, rfl⟩, fun h9 => by rw [e9] at h9; exact absurd h9 (Nat.lt_irrefl 10), hag⟩
      · skip
        refine x_aload_n hC d_Program_readsCommand_20 rfl rfl ?_
        refine x_iload_n hC d_Program_readsCommand_21 rfl rfl ?_
        refine x_putf hC kf_Program_43 p0 (Nat.le_of_ble_eq_true rfl) rfl rfl d_Program_readsCommand_22 (fs1 := [.ref (g + 1), .ref (g + 3), .ref (g + 4), .ref (g + 5), .ref (g + 6), .int (nI (K.1)), .int (nI (cc)), .int (nI (a)), .int (nI (y1)), .int (nI (y2)), .int (nI (y3))]) rfl ?_
        generalize e2 : xup Fh12 (g) (.inl (4, [.ref (g + 1), .ref (g + 3), .ref (g + 4), .ref (g + 5), .ref (g + 6), .int (nI (K.1)), .int (nI (cc)), .int (nI (a)), .int (nI (y1)), .int (nI (y2)), .int (nI (y3))])) = F2
        have p0 : F2 (g) = some (.inl (4, [.ref (g + 1), .ref (g + 3), .ref (g + 4), .ref (g + 5), .ref (g + 6), .int (nI (K.1)), .int (nI (cc)), .int (nI (a)), .int (nI (y1)), .int (nI (y2)), .int (nI (y3))])) := by rw [← e2]; exact xup_eq
        have ht : xTx F2 (g + 1) (60) (n) (s) := xTx_fr ht (fun a9 q1 q2 => by rw [← e2]; exact xup_ne (by omega))
        have hK : xPk F2 (g) (cm.2.1) (K) := xPk_fr hK (fun a9 q1 q2 => by rw [← e2]; exact xup_ne (by omega))
        have hag : ∀ a9 : Nat, (a9 < g ∨ g + 1 ≤ a9) → (a9 < g + 3 ∨ g + 3 + 4 ≤ a9) → F2 a9 = F a9 := fun a9 q0 q1 => by rw [← e2]; exact (xup_ne (by omega)).trans (hag a9 q0 q1)
        refine x_aload_n hC d_Program_readsCommand_25 rfl rfl ?_
        refine x_getsN hC (host := "MessageCoder") (v := .ref (cm.1)) hCM.1 (x_inN (xtb_6 (List.mem_of_getElem? (i := 68) (by decide +kernel))) (by decide +kernel)) d_Program_readsCommand_26 ?_
        refine x_iload_n hC d_Program_readsCommand_29 rfl rfl ?_
        refine x_stq hC hCM.2.1 rfl (j := c) ⟨rfl, by omega, by decide⟩ (x := .ref (cm.2.1 c)) rfl d_Program_readsCommand_30 ?_
        refine x_getSN hC (host := "MessageCoder") (v := .ref (cm.2.2.1 c)) (hCM.2.2.2.1 c (by omega)) (x_inN (xtb_9 (List.mem_of_getElem? (i := 89) (by decide +kernel))) (by decide +kernel)) d_Program_readsCommand_31 ?_
        refine x_callV hC kv_Program_64 (c_Program_readsForm (p0 := p0) (ht := ht) (ha := ha) (hc := by omega) (hCM := hCM) (c := c)) p0 rfl rfl (by decide) rfl rfl rfl (Nat.le_of_ble_eq_true rfl) (by decide) d_Program_readsCommand_34 (fun r9 F9 z9 hp9 => ?_)
        obtain ⟨rfl, h9c, j0, hag9⟩ := hp9
        rw [h9c]
        clear h9c z9
        generalize F9 = F3 at *
        have ht : xTx F3 (g + 1) (60) (n) (s) := xTx_fr ht (fun a9 q1 q2 => hag9 a9 (by omega))
        have hK : xPk F3 (g) (cm.2.1) (K) := xPk_fr hK (fun a9 q1 q2 => hag9 a9 (by omega))
        have p0 : F3 (g) = some (.inl (4, [.ref (g + 1), .ref (g + 3), .ref (g + 4), .ref (g + 5), .ref (g + 6), .int (nI ((K.1))), .int (nI (cc)), .int (nI (((pTry n s a c).2).1)), .int (nI (((pTry n s a c).2).2.1)), .int (nI (((pTry n s a c).2).2.2.1)), .int (nI (((pTry n s a c).2).2.2.2))])) := j0
        have hag : ∀ a9 : Nat, (a9 < g ∨ g + 1 ≤ a9) → (a9 < g + 3 ∨ g + 3 + 4 ≤ a9) → F3 a9 = F a9 := fun a9 q0 q1 => (hag9 a9 (by omega)).trans (hag a9 q0 q1)
        have hg_34 := hag9
        clear hag9
        refine x_ifB_eq hC d_Program_readsCommand_37 (tgt := 51) (by decide) (fun c_37 => ?_) (fun c_37 => ?_)
        · skip
          have htr : (pTry n s a c).1 = false := Bool.eq_false_iff.mpr c_37
          have htB := (pTry_B (s := s) hn60 ha (show c < 10 by omega)).1
          refine x_iload_n hC d_Program_readsCommand_51 rfl rfl ?_
          refine x_aload_n hC d_Program_readsCommand_52 rfl rfl ?_
          refine x_getf hC kf_Program_43 p0 rfl d_Program_readsCommand_53 ?_
          refine x_mmaxN hC km_Program_72 (by omega) (by omega) rfl (by decide) (Nat.le_of_ble_eq_true rfl) (by decide) d_Program_readsCommand_56 (v := if fu < (pTry n s a c).2.1 then (pTry n s a c).2.1 else fu) rfl ?_
          refine x_istore_n hC d_Program_readsCommand_59 rfl (Nat.le_of_ble_eq_true rfl) (L1 := [some (.ref g), some (.int (nI (a))), some (.int (nI (if fu < (pTry n s a c).2.1 then (pTry n s a c).2.1 else fu))), some (.int (nI (c)))]) rfl ?_
          have hnx : pCmd n s a (c + 1) = (c + 1, if fu < (pTry n s a c).2.1 then (pTry n s a c).2.1 else fu) := by rw [pCmd, kc, if_neg (by omega), if_neg c_37]
          refine x_iinc hC d_Program_readsCommand_60 rfl (v := (nI (c + 1))) (x_incN 1) (Nat.le_of_ble_eq_true rfl) (L1 := [some (.ref g), some (.int (nI (a))), some (.int (nI (if fu < (pTry n s a c).2.1 then (pTry n s a c).2.1 else fu))), some (.int (nI (c + 1)))]) rfl ?_
          refine x_goto hC d_Program_readsCommand_63 (tgt := 12) (by decide) ?_
          exact ih_12 F3 (c + 1) (if fu < (pTry n s a c).2.1 then (pTry n s a c).2.1 else fu) ((pTry n s a c).2.1) ((pTry n s a c).2.2.1) ((pTry n s a c).2.2.2.1) ((pTry n s a c).2.2.2.2) p0 ht hK hag (by omega) (hnx) (by omega)
        · skip
          have htB := pTry_B (s := s) hn60 ha (show c < 10 by omega)
          have hhit := pCmd_hit kc c_37 (by omega)
          refine x_aload_n hC d_Program_readsCommand_40 rfl rfl ?_
          refine x_getsN hC (host := "MessageCoder") (v := .ref (cm.1)) hCM.1 (x_inN (xtb_6 (List.mem_of_getElem? (i := 68) (by decide +kernel))) (by decide +kernel)) d_Program_readsCommand_41 ?_
          refine x_iload_n hC d_Program_readsCommand_44 rfl rfl ?_
          refine x_stq hC hCM.2.1 rfl (j := c) ⟨rfl, by omega, by decide⟩ (x := .ref (cm.2.1 c)) rfl d_Program_readsCommand_45 ?_
          refine x_callV hC kv_Program_68 (c_Program_keepCommand (p0 := p0) (ht := ht) (hK := hK) (hc := by omega) (hCM := hCM) (hcc := by omega) (hf1 := htB.2.1) (hf2 := htB.2.2.1) (c := c)) p0 rfl rfl (by decide) rfl rfl rfl (Nat.le_of_ble_eq_true rfl) (by decide) d_Program_readsCommand_46 (fun r9 F9 z9 hp9 => ?_)
          obtain ⟨rfl, h9c, j0, j1, hag9⟩ := hp9
          rw [h9c]
          clear h9c z9
          generalize F9 = F4 at *
          have ht : xTx F4 (g + 1) (60) (n) (s) := xTx_fr ht (fun a9 q1 q2 => hag9 a9 (by omega) (by omega))
          have p0 : F4 (g) = some (.inl (4, [.ref (g + 1), .ref (g + 3), .ref (g + 4), .ref (g + 5), .ref (g + 6), .int (nI ((kCmd n s K c (((pTry n s a c).2).2.1) (((pTry n s a c).2).2.2.1) cc).1)), .int (nI (cc + 1)), .int (nI ((((pTry n s a c).2).1))), .int (nI ((((pTry n s a c).2).2.1))), .int (nI ((((pTry n s a c).2).2.2.1))), .int (nI ((((pTry n s a c).2).2.2.2)))])) := j0
          have hK : xPk F4 (g) (cm.2.1) ((kCmd n s K c (((pTry n s a c).2).2.1) (((pTry n s a c).2).2.2.1) cc)) := j1
          have hag : ∀ a9 : Nat, (a9 < g ∨ g + 1 ≤ a9) → (a9 < g + 3 ∨ g + 3 + 4 ≤ a9) → F4 a9 = F a9 := fun a9 q0 q1 => (hag9 a9 (by omega) (by omega)).trans (hag a9 q0 q1)
          have hg_46 := hag9
          clear hag9
          refine x_iconst hC d_Program_readsCommand_49 (v := nI 1) (by decide) ?_
          refine hret _ _ _ _ _ _ _ d_Program_readsCommand_50 (by decide) (by decide) rfl ?_
          refine ⟨_, _, _, _, _, _, congrArg (fun q => some (Value.int q)) (xb_t1 (by rw [hhit]; omega)), rfl, p0, hK, fun _ => ⟨?_, ?_, rfl⟩, fun h9 => absurd (show (pCmd n s a 10).1 < 10 by rw [hhit]; omega) h9, fun _ => ⟨htB.1, htB.2.1, htB.2.2.1, htB.2.2.2⟩, hag⟩
          · rw [rdA, hhit]
          · rw [rdK, hhit]
  exact loop_12 (10 - 0 + 1) F (0) (a) (a) (f1) (f2) (hf) p0 ht hK hag (by omega) (rfl) (by omega)

theorem d_Program_read_0 : decode prog_8_method_2_code 0 = .ok (.aload_n 0, 1) := by decide +kernel
theorem d_Program_read_1 : decode prog_8_method_2_code 1 = .ok (.iconst 0, 1) := by decide +kernel
theorem d_Program_read_2 : decode prog_8_method_2_code 2 = .ok (.putfield 36, 3) := by decide +kernel
theorem d_Program_read_5 : decode prog_8_method_2_code 5 = .ok (.aload_n 0, 1) := by decide +kernel
theorem d_Program_read_6 : decode prog_8_method_2_code 6 = .ok (.iconst 0, 1) := by decide +kernel
theorem d_Program_read_7 : decode prog_8_method_2_code 7 = .ok (.putfield 40, 3) := by decide +kernel
theorem d_Program_read_10 : decode prog_8_method_2_code 10 = .ok (.aload_n 0, 1) := by decide +kernel
theorem d_Program_read_11 : decode prog_8_method_2_code 11 = .ok (.iconst 0, 1) := by decide +kernel
theorem d_Program_read_12 : decode prog_8_method_2_code 12 = .ok (.putfield 43, 3) := by decide +kernel
theorem d_Program_read_15 : decode prog_8_method_2_code 15 = .ok (.iconst 0, 1) := by decide +kernel
theorem d_Program_read_16 : decode prog_8_method_2_code 16 = .ok (.istore_n 1, 1) := by decide +kernel
theorem d_Program_read_17 : decode prog_8_method_2_code 17 = .ok (.iload_n 1, 1) := by decide +kernel
theorem d_Program_read_18 : decode prog_8_method_2_code 18 = .ok (.bipush 60, 2) := by decide +kernel
theorem d_Program_read_20 : decode prog_8_method_2_code 20 = .ok (.if_icmp .ge 51, 3) := by decide +kernel
theorem d_Program_read_23 : decode prog_8_method_2_code 23 = .ok (.aload_n 0, 1) := by decide +kernel
theorem d_Program_read_24 : decode prog_8_method_2_code 24 = .ok (.invokevirtual 46, 3) := by decide +kernel
theorem d_Program_read_27 : decode prog_8_method_2_code 27 = .ok (.ifCond .ne 8, 3) := by decide +kernel
theorem d_Program_read_30 : decode prog_8_method_2_code 30 = .ok (.aload_n 0, 1) := by decide +kernel
theorem d_Program_read_31 : decode prog_8_method_2_code 31 = .ok (.getfield 43, 3) := by decide +kernel
theorem d_Program_read_34 : decode prog_8_method_2_code 34 = .ok (.ireturn, 1) := by decide +kernel
theorem d_Program_read_35 : decode prog_8_method_2_code 35 = .ok (.aload_n 0, 1) := by decide +kernel
theorem d_Program_read_36 : decode prog_8_method_2_code 36 = .ok (.getfield 43, 3) := by decide +kernel
theorem d_Program_read_39 : decode prog_8_method_2_code 39 = .ok (.aload_n 0, 1) := by decide +kernel
theorem d_Program_read_40 : decode prog_8_method_2_code 40 = .ok (.getfield 14, 3) := by decide +kernel
theorem d_Program_read_43 : decode prog_8_method_2_code 43 = .ok (.getfield 50, 3) := by decide +kernel
theorem d_Program_read_46 : decode prog_8_method_2_code 46 = .ok (.if_icmp .lt 5, 3) := by decide +kernel
theorem d_Program_read_49 : decode prog_8_method_2_code 49 = .ok (.iconst (-1), 1) := by decide +kernel
theorem d_Program_read_50 : decode prog_8_method_2_code 50 = .ok (.ireturn, 1) := by decide +kernel
theorem d_Program_read_51 : decode prog_8_method_2_code 51 = .ok (.aload_n 0, 1) := by decide +kernel
theorem d_Program_read_52 : decode prog_8_method_2_code 52 = .ok (.bipush 59, 2) := by decide +kernel
theorem d_Program_read_54 : decode prog_8_method_2_code 54 = .ok (.invokevirtual 53, 3) := by decide +kernel
theorem d_Program_read_57 : decode prog_8_method_2_code 57 = .ok (.ifCond .ne 8, 3) := by decide +kernel
theorem d_Program_read_60 : decode prog_8_method_2_code 60 = .ok (.aload_n 0, 1) := by decide +kernel
theorem d_Program_read_61 : decode prog_8_method_2_code 61 = .ok (.getfield 43, 3) := by decide +kernel
theorem d_Program_read_64 : decode prog_8_method_2_code 64 = .ok (.ireturn, 1) := by decide +kernel
theorem d_Program_read_65 : decode prog_8_method_2_code 65 = .ok (.iinc 1 1, 3) := by decide +kernel
theorem d_Program_read_68 : decode prog_8_method_2_code 68 = .ok (.goto (-51), 3) := by decide +kernel
theorem d_Program_read_71 : decode prog_8_method_2_code 71 = .ok (.aload_n 0, 1) := by decide +kernel
theorem d_Program_read_72 : decode prog_8_method_2_code 72 = .ok (.getfield 43, 3) := by decide +kernel
theorem d_Program_read_75 : decode prog_8_method_2_code 75 = .ok (.ireturn, 1) := by decide +kernel
set_option maxHeartbeats 4000000 in
set_option maxRecDepth 20000 in
theorem c_Program_read {P : xP} {F : xF} {z : Nat} {g : Nat} {cc : Nat} {a : Nat} {f1 : Nat} {f2 : Nat} {hf : Nat} {n : Nat} {s : Nat → Nat} {K : kS} {cm : cmT} (p0 : F (g) = some (.inl (4, [.ref (g + 1), .ref (g + 3), .ref (g + 4), .ref (g + 5), .ref (g + 6), .int (nI (K.1)), .int (nI (cc)), .int (nI (a)), .int (nI (f1)), .int (nI (f2)), .int (nI (hf))]))) (ht : xTx F (g + 1) (60) (n) (s)) (hK : xPk F (g) (cm.2.1) (K)) (hCM : xCM P cm) : xM P xy_Program_read [.ref g] F (z) 0 0 (fun r9 F9 z9 => ∃ x1 : Nat, ∃ x2 : Nat, ∃ x3 : Nat, r9 = some (.int (if (rdS n s 60).1 = 1 then -1 else nI (rdS n s 60).2.1)) ∧ z9 = z ∧ F9 (g) = some (.inl (4, [.ref (g + 1), .ref (g + 3), .ref (g + 4), .ref (g + 5), .ref (g + 6), .int (nI ((rdS n s 60).2.2.1.1)), .int (nI ((rdS n s 60).2.2.2)), .int (nI ((rdS n s 60).2.1)), .int (nI (x1)), .int (nI (x2)), .int (nI (x3))])) ∧ xPk F9 (g) (cm.2.1) ((rdS n s 60).2.2.1) ∧ (∀ a9 : Nat, (a9 < g ∨ g + 1 ≤ a9) → (a9 < g + 3 ∨ g + 3 + 4 ≤ a9) → F9 a9 = F a9)) := by
  refine xM_i .int rfl (Nat.le_of_ble_eq_true rfl) (L0 := [some (.ref g), none]) rfl rfl fun Θ hC hret => ?_
  have hag : ∀ a9 : Nat, (a9 < g ∨ g + 1 ≤ a9) → (a9 < g + 3 ∨ g + 3 + 4 ≤ a9) → F a9 = F a9 := fun a9 _ _ => rfl
  have hn60 : n ≤ 60 := ht.2.1.1
  refine x_aload_n hC d_Program_read_0 rfl rfl ?_
  refine x_iconst hC d_Program_read_1 (v := nI 0) (by decide) ?_
  refine x_putf hC kf_Program_36 p0 (Nat.le_of_ble_eq_true rfl) rfl rfl d_Program_read_2 (fs1 := [.ref (g + 1), .ref (g + 3), .ref (g + 4), .ref (g + 5), .ref (g + 6), .int (nI 0), .int (nI (cc)), .int (nI (a)), .int (nI (f1)), .int (nI (f2)), .int (nI (hf))]) rfl ?_
  generalize e1 : xup F (g) (.inl (4, [.ref (g + 1), .ref (g + 3), .ref (g + 4), .ref (g + 5), .ref (g + 6), .int (nI 0), .int (nI (cc)), .int (nI (a)), .int (nI (f1)), .int (nI (f2)), .int (nI (hf))])) = F1
  have p0 : F1 (g) = some (.inl (4, [.ref (g + 1), .ref (g + 3), .ref (g + 4), .ref (g + 5), .ref (g + 6), .int (nI 0), .int (nI (cc)), .int (nI (a)), .int (nI (f1)), .int (nI (f2)), .int (nI (hf))])) := by rw [← e1]; exact xup_eq
  have ht : xTx F1 (g + 1) (60) (n) (s) := xTx_fr ht (fun a9 q1 q2 => by rw [← e1]; exact xup_ne (by omega))
  have hK : xPk F1 (g) (cm.2.1) (K) := xPk_fr hK (fun a9 q1 q2 => by rw [← e1]; exact xup_ne (by omega))
  have hag : ∀ a9 : Nat, (a9 < g ∨ g + 1 ≤ a9) → (a9 < g + 3 ∨ g + 3 + 4 ≤ a9) → F1 a9 = F a9 := fun a9 q0 q1 => by rw [← e1]; exact (xup_ne (by omega)).trans (hag a9 q0 q1)
  refine x_aload_n hC d_Program_read_5 rfl rfl ?_
  refine x_iconst hC d_Program_read_6 (v := nI 0) (by decide) ?_
  refine x_putf hC kf_Program_40 p0 (Nat.le_of_ble_eq_true rfl) rfl rfl d_Program_read_7 (fs1 := [.ref (g + 1), .ref (g + 3), .ref (g + 4), .ref (g + 5), .ref (g + 6), .int (nI 0), .int (nI 0), .int (nI (a)), .int (nI (f1)), .int (nI (f2)), .int (nI (hf))]) rfl ?_
  generalize e2 : xup F1 (g) (.inl (4, [.ref (g + 1), .ref (g + 3), .ref (g + 4), .ref (g + 5), .ref (g + 6), .int (nI 0), .int (nI 0), .int (nI (a)), .int (nI (f1)), .int (nI (f2)), .int (nI (hf))])) = F2
  have p0 : F2 (g) = some (.inl (4, [.ref (g + 1), .ref (g + 3), .ref (g + 4), .ref (g + 5), .ref (g + 6), .int (nI 0), .int (nI 0), .int (nI (a)), .int (nI (f1)), .int (nI (f2)), .int (nI (hf))])) := by rw [← e2]; exact xup_eq
  have ht : xTx F2 (g + 1) (60) (n) (s) := xTx_fr ht (fun a9 q1 q2 => by rw [← e2]; exact xup_ne (by omega))
  have hK : xPk F2 (g) (cm.2.1) (K) := xPk_fr hK (fun a9 q1 q2 => by rw [← e2]; exact xup_ne (by omega))
  have hag : ∀ a9 : Nat, (a9 < g ∨ g + 1 ≤ a9) → (a9 < g + 3 ∨ g + 3 + 4 ≤ a9) → F2 a9 = F a9 := fun a9 q0 q1 => by rw [← e2]; exact (xup_ne (by omega)).trans (hag a9 q0 q1)
  refine x_aload_n hC d_Program_read_10 rfl rfl ?_
  refine x_iconst hC d_Program_read_11 (v := nI 0) (by decide) ?_
  refine x_putf hC kf_Program_43 p0 (Nat.le_of_ble_eq_true rfl) rfl rfl d_Program_read_12 (fs1 := [.ref (g + 1), .ref (g + 3), .ref (g + 4), .ref (g + 5), .ref (g + 6), .int (nI 0), .int (nI 0), .int (nI 0), .int (nI (f1)), .int (nI (f2)), .int (nI (hf))]) rfl ?_
  generalize e3 : xup F2 (g) (.inl (4, [.ref (g + 1), .ref (g + 3), .ref (g + 4), .ref (g + 5), .ref (g + 6), .int (nI 0), .int (nI 0), .int (nI 0), .int (nI (f1)), .int (nI (f2)), .int (nI (hf))])) = F3
  have p0 : F3 (g) = some (.inl (4, [.ref (g + 1), .ref (g + 3), .ref (g + 4), .ref (g + 5), .ref (g + 6), .int (nI 0), .int (nI 0), .int (nI 0), .int (nI (f1)), .int (nI (f2)), .int (nI (hf))])) := by rw [← e3]; exact xup_eq
  have ht : xTx F3 (g + 1) (60) (n) (s) := xTx_fr ht (fun a9 q1 q2 => by rw [← e3]; exact xup_ne (by omega))
  have hK : xPk F3 (g) (cm.2.1) (K) := xPk_fr hK (fun a9 q1 q2 => by rw [← e3]; exact xup_ne (by omega))
  have hag : ∀ a9 : Nat, (a9 < g ∨ g + 1 ≤ a9) → (a9 < g + 3 ∨ g + 3 + 4 ≤ a9) → F3 a9 = F a9 := fun a9 q0 q1 => by rw [← e3]; exact (xup_ne (by omega)).trans (hag a9 q0 q1)
  have hK := xPk_0 hK
  refine x_iconst hC d_Program_read_15 (v := nI 0) (by decide) ?_
  refine x_istore_n hC d_Program_read_16 rfl (Nat.le_of_ble_eq_true rfl) (L1 := [some (.ref g), some (.int (nI 0))]) rfl ?_
  have loop_17 : ∀ (m9 : Nat) (Fh17 : xF) (i : Nat) (a1 : Nat) (y1 : Nat) (y2 : Nat) (y3 : Nat) (K1 : kS) (cc1 : Nat), (Fh17 (g) = some (.inl (4, [.ref (g + 1), .ref (g + 3), .ref (g + 4), .ref (g + 5), .ref (g + 6), .int (nI (K1.1)), .int (nI (cc1)), .int (nI (a1)), .int (nI (y1)), .int (nI (y2)), .int (nI (y3))]))) → (xTx Fh17 (g + 1) (60) (n) (s)) → (xPk Fh17 (g) (cm.2.1) (K1)) → (∀ a9 : Nat, (a9 < g ∨ g + 1 ≤ a9) → (a9 < g + 3 ∨ g + 3 + 4 ≤ a9) → Fh17 a9 = F a9) → (i ≤ 60) → (a1 ≤ n) → (cc1 ≤ i) → (rdS n s i = (0, a1, K1, cc1)) → (60 - i < m9) → xX P Θ 17 [some (.ref g), some (.int (nI (i)))] [] Fh17 (z) 0 0 := by
    intro m9
    induction m9 with
    | zero => intros; omega
    | succ m9 ih_17 =>
      intro Fh17 i a1 y1 y2 y3 K1 cc1 p0 ht hK hag hi ha1 hcc kd hm_17
      refine x_iload_n hC d_Program_read_17 rfl rfl ?_
      refine x_bipush hC d_Program_read_18 (v := nI 60) (by decide) ?_
      refine x_icmpN_ge hC d_Program_read_20 (tgt := 71) (by decide) (by omega) (by omega) (fun c_20 => ?_) (fun c_20 => ?_)
      · skip
        refine x_aload_n hC d_Program_read_71 rfl rfl ?_
        refine x_getf hC kf_Program_43 p0 rfl d_Program_read_72 ?_
        refine hret _ _ _ _ _ _ _ d_Program_read_75 (by decide) (by decide) rfl ?_
        have e9 : rdS n s 60 = (0, a1, K1, cc1) := by rw [← show i = 60 by omega]; exact kd
        exact ⟨_, _, _, by rw [e9]; rfl, rfl, by rw [e9]; exact p0, by rw [e9]; exact hK, hag⟩
      · skip
        refine x_aload_n hC d_Program_read_23 rfl rfl ?_
        refine x_callV hC kv_Program_46 (c_Program_readsCommand (p0 := p0) (ht := ht) (hK := hK) (ha := ha1) (hCM := hCM) (hcc := by omega)) p0 rfl rfl (by decide) rfl rfl rfl (Nat.le_of_ble_eq_true rfl) (by decide) d_Program_read_24 (fun r9 F9 z9 hp9 => ?_)
        obtain ⟨a1_24, x1_24, x2_24, x3_24, K1_24, cc1_24, rfl, h9c, j0, j1, pt_24, pf_24, pb_24, hag9⟩ := hp9
        rw [h9c]
        clear h9c z9
        generalize F9 = F4 at *
        have ht : xTx F4 (g + 1) (60) (n) (s) := xTx_fr ht (fun a9 q1 q2 => hag9 a9 (by omega) (by omega))
        have p0 : F4 (g) = some (.inl (4, [.ref (g + 1), .ref (g + 3), .ref (g + 4), .ref (g + 5), .ref (g + 6), .int (nI (K1_24.1)), .int (nI (cc1_24)), .int (nI (a1_24)), .int (nI (x1_24)), .int (nI (x2_24)), .int (nI (x3_24))])) := j0
        have hK : xPk F4 (g) (cm.2.1) (K1_24) := j1
        have hag : ∀ a9 : Nat, (a9 < g ∨ g + 1 ≤ a9) → (a9 < g + 3 ∨ g + 3 + 4 ≤ a9) → F4 a9 = F a9 := fun a9 q0 q1 => (hag9 a9 (by omega) (by omega)).trans (hag a9 q0 q1)
        have hg_24 := hag9
        clear hag9
        refine x_ifB_ne hC d_Program_read_27 (tgt := 35) (by decide) (fun c_27 => ?_) (fun c_27 => ?_)
        · skip
          obtain ⟨ea, eK, ec⟩ := pt_24 c_27
          have hA : a1_24 ≤ n := by rw [ea]; exact (pTry_B (s := s) hn60 ha1 c_27).1
          refine x_aload_n hC d_Program_read_35 rfl rfl ?_
          refine x_getf hC kf_Program_43 p0 rfl d_Program_read_36 ?_
          refine x_aload_n hC d_Program_read_39 rfl rfl ?_
          refine x_getf hC kf_Program_14 p0 rfl d_Program_read_40 ?_
          refine x_getf hC kf_Program_50 ht.1 rfl d_Program_read_43 ?_
          refine x_icmpN_lt hC d_Program_read_46 (tgt := 51) (by decide) (by omega) (by omega) (fun c_46 => ?_) (fun c_46 => ?_)
          · skip
            have hst : ¬ n ≤ rdA n s a1 := by rw [← ea]; omega
            refine x_aload_n hC d_Program_read_51 rfl rfl ?_
            refine x_bipush hC d_Program_read_52 (v := nI 59) (by decide) ?_
            refine x_callV hC kv_Program_53 (c_Program_readsSign (p0 := p0) (ht := ht) (hB := pb_24 c_27) (hc0 := by omega)) p0 rfl rfl (by decide) rfl rfl rfl (Nat.le_of_ble_eq_true rfl) (by decide) d_Program_read_54 (fun r9 F9 z9 hp9 => ?_)
            obtain ⟨rfl, h9c, j0, hag9⟩ := hp9
            rw [h9c]
            clear h9c z9
            generalize F9 = F5 at *
            have ht : xTx F5 (g + 1) (60) (n) (s) := xTx_fr ht (fun a9 q1 q2 => hag9 a9 (by omega))
            have hK : xPk F5 (g) (cm.2.1) (K1_24) := xPk_fr hK (fun a9 q1 q2 => hag9 a9 (by omega))
            have p0 : F5 (g) = some (.inl (4, [.ref (g + 1), .ref (g + 3), .ref (g + 4), .ref (g + 5), .ref (g + 6), .int (nI ((K1_24.1))), .int (nI (cc1_24)), .int (nI (((pSign n s 59 (a1_24, x1_24, x2_24, x3_24)).2).1)), .int (nI (((pSign n s 59 (a1_24, x1_24, x2_24, x3_24)).2).2.1)), .int (nI (((pSign n s 59 (a1_24, x1_24, x2_24, x3_24)).2).2.2.1)), .int (nI (((pSign n s 59 (a1_24, x1_24, x2_24, x3_24)).2).2.2.2))])) := j0
            have hag : ∀ a9 : Nat, (a9 < g ∨ g + 1 ≤ a9) → (a9 < g + 3 ∨ g + 3 + 4 ≤ a9) → F5 a9 = F a9 := fun a9 q0 q1 => (hag9 a9 (by omega)).trans (hag a9 q0 q1)
            have hg_54 := hag9
            clear hag9
            refine x_ifB_ne hC d_Program_read_57 (tgt := 65) (by decide) (fun c_57 => ?_) (fun c_57 => ?_)
            · skip
              have hsg : sgN n s a1_24 = 59 := Decidable.byContradiction (fun q => by rw [show pSign n s 59 (a1_24, x1_24, x2_24, x3_24) = _ from if_neg q] at c_57; exact Bool.false_ne_true c_57)
              have hsi : pSign n s 59 (a1_24, x1_24, x2_24, x3_24) = (true, a1_24 + 1, x1_24, x2_24, x3_24) := if_pos hsg
              rw [hsi] at p0
              have hst2 : rdS n s (i + 1) = (0, a1_24 + 1, K1_24, cc1_24) := by rw [rdS, kd, rdN, if_pos rfl, if_pos c_27, if_neg hst, if_pos (by show sgN n s (rdA n s a1) = 59; rw [← ea]; exact hsg), ea, eK, ec]
              refine x_iinc hC d_Program_read_65 rfl (v := (nI (i + 1))) (x_incN 1) (Nat.le_of_ble_eq_true rfl) (L1 := [some (.ref g), some (.int (nI (i + 1)))]) rfl ?_
              refine x_goto hC d_Program_read_68 (tgt := 17) (by decide) ?_
              exact ih_17 F5 (i + 1) (a1_24 + 1) (x1_24) (x2_24) (x3_24) (K1_24) (cc1_24) p0 ht hK hag (by omega) (by omega) (by omega) (hst2) (by omega)
            · skip
              have hsg : ¬ sgN n s a1_24 = 59 := fun q => c_57 (by rw [show pSign n s 59 (a1_24, x1_24, x2_24, x3_24) = _ from if_pos q])
              have hsi : pSign n s 59 (a1_24, x1_24, x2_24, x3_24) = (false, a1_24, x1_24, x2_24, x3_24) := if_neg hsg
              rw [hsi] at p0
              have hst2 : rdS n s (i + 1) = (2, a1_24, K1_24, cc1_24) := by rw [rdS, kd, rdN, if_pos rfl, if_pos c_27, if_neg hst, if_neg (by show ¬ sgN n s (rdA n s a1) = 59; rw [← ea]; exact hsg), ea, eK, ec]
              refine x_aload_n hC d_Program_read_60 rfl rfl ?_
              refine x_getf hC kf_Program_43 p0 rfl d_Program_read_61 ?_
              refine hret _ _ _ _ _ _ _ d_Program_read_64 (by decide) (by decide) rfl ?_
              have e9 : rdS n s 60 = (2, a1_24, K1_24, cc1_24) := rdS_end hst2 (by omega) (show ¬ (2 : Nat) = 0 by decide)
              exact ⟨_, _, _, by rw [e9]; rfl, rfl, by rw [e9]; exact p0, by rw [e9]; exact hK, hag⟩
          · skip
            have hst : rdS n s (i + 1) = (1, a1_24, K1_24, cc1_24) := by rw [rdS, kd, rdN, if_pos rfl, if_pos c_27, if_pos (by show n ≤ rdA n s a1; rw [← ea]; exact c_46), ea, eK, ec]
            refine x_iconst hC d_Program_read_49 (v := -1) (by decide) ?_
            refine hret _ _ _ _ _ _ _ d_Program_read_50 (by decide) (by decide) rfl ?_
            have e9 : rdS n s 60 = (1, a1_24, K1_24, cc1_24) := rdS_end hst (by omega) (show ¬ (1 : Nat) = 0 by decide)
            exact ⟨_, _, _, by rw [e9]; rfl, rfl, by rw [e9]; exact p0, by rw [e9]; exact hK, hag⟩
        · skip
          obtain ⟨ea, eK, ec⟩ := pf_24 c_27
          have hst : rdS n s (i + 1) = (2, a1_24, K1_24, cc1_24) := by rw [rdS, kd, rdN, if_pos rfl, if_neg c_27, ea, eK, ec]
          refine x_aload_n hC d_Program_read_30 rfl rfl ?_
          refine x_getf hC kf_Program_43 p0 rfl d_Program_read_31 ?_
          refine hret _ _ _ _ _ _ _ d_Program_read_34 (by decide) (by decide) rfl ?_
          have e9 : rdS n s 60 = (2, a1_24, K1_24, cc1_24) := rdS_end hst (by omega) (show ¬ (2 : Nat) = 0 by decide)
          exact ⟨_, _, _, by rw [e9]; rfl, rfl, by rw [e9]; exact p0, by rw [e9]; exact hK, hag⟩
  exact loop_17 (60 - 0 + 1) F3 (0) (0) (f1) (f2) (hf) (((0, fun _ => 0, fun _ => 0, fun _ => 0, fun _ => 0) : kS)) (0) p0 ht hK hag (by omega) (by omega) (by omega) (rfl) (by omega)

