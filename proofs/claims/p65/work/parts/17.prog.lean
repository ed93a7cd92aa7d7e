section XM2
variable {P : xP} {Θ : xT} {cc : ByteArray} {own : String} {nL d mc ms pc : Nat} {L : List (Option Value)} {st : List Value} {F : xF} {z k n : Nat}
theorem x_getSN (hC : xC P Θ cc own nL d mc ms) {oc nm ds host : String} {v : Value} {t index : Nat} (hz : ∀ U, P.2.2.2.2 U → va_OF oc nm ds v t (xA0 P) U P.2.2.1) (hk : Cond.fieldLinkNest own index oc nm ds host ∈ x_nst) (hd : decode cc pc = .ok (.getfield index, 3)) (kk : xX P Θ (pc + 3) L (v :: st) F z k n) : xX P Θ pc L (.ref t :: st) F z k n := by
  intro H locs ls hW hl hx
  obtain ⟨U0, hal, hks⟩ := hC.2.2.2.2.2.1.2.2.2
  obtain ⟨cf, kf, fi, f, cell, h1, h2, h3, h4, h5, h6⟩ := va_OF.moved hal (hz U0 hks)
  exact va_Wgetf hC.1 hC.2.1 hC.2.2.2.1 (va_Nw.use rfl (hC.2.2.2.2.2.1.2.2.1 _ hk)) h1 h2 (by rw [x_old hW h6]; exact h3) h4 h5 (g := F0 Θ.2.2.2.2.1 pc ls (.ref t :: st)) rfl rfl hd (kk H locs ls hW hl hx)
end XM2
/-! the parser -/
def frmL : List (List Nat) := [[119, 101, 105, 103, 104, 116, 32, 83, 61, 78], [100, 114, 97, 102, 116, 32, 76], [99, 108, 101, 97, 114], [112, 111, 115, 116, 32, 68], [100, 114, 111, 112, 32, 78], [104, 117, 114, 114, 121, 32, 78, 32, 68], [108, 101, 97, 114, 110, 32, 78], [115, 101, 110, 100], [102, 108, 105, 112, 32, 78], [114, 101, 99, 101, 105, 118, 101]]
def frm (c j : Nat) : Nat := (frmL.getD c []).getD j 0
def fln (c : Nat) : Nat := (frmL.getD c []).length
def nmC (c : Nat) : String := (["WEIGHT", "DRAFT", "CLEAR", "POST", "DROP", "HURRY", "LEARN", "SEND", "FLIP", "RECEIVE"] : List String).getD c ""
theorem frm_ok : ∀ c, c < 10 → fln c ≤ 10 ∧ ∀ j, j < fln c → frm c j ≠ 0 ∧ frm c j < 128 := by decide +kernel
/-- the commands stand: their row, their objects, their forms' texts and bytes, the formatter -/
abbrev cmT : Type := Nat × (Nat → Nat) × (Nat → Nat) × (Nat → Nat) × Nat
def xCM (P : xP) (cm : cmT) : Prop := True ∧ True ∧ (∀ j, j < 10 ∧ ¬ j = 2 → ∀ U, P.2.2.2.2 U → va_O "MessageCoder$Command" (cm.2.1 j) (xA0 P) U P.2.2.1) ∧ True ∧ True ∧ (∀ j, j < 10 ∧ ¬ j = 2 → ∀ U, P.2.2.2.2 U → va_OF "java/lang/Enum" "ordinal" "I" (.int (nI j)) (cm.2.1 j) (xA0 P) U P.2.2.1) ∧ True ∧ ∀ j, j < 10 ∧ ¬ j = 2 → ∀ U, P.2.2.2.2 U → va_Z "MessageCoder$Command" (nmC j) "LMessageCoder$Command;" (.ref (cm.2.1 j)) (xA0 P) U P.2.2.1
def sgN (n : Nat) (s : Nat → Nat) (a : Nat) : Nat := if a < n then s a else 0
theorem sgN_lt {n : Nat} {s : Nat → Nat} (h : ∀ j, j < n → s j < 65536) (a : Nat) : (if a < n then s a else 0) < 65536 := by
  by_cases q : a < n
  · rw [if_pos q]; exact h a q
  · rw [if_neg q]; decide
theorem sgN_in {n : Nat} {s : Nat → Nat} {a c : Nat} (h : sgN n s a = c) (hc : c ≠ 0) : a < n := by
  unfold sgN at h
  by_cases q : a < n
  · exact q
  · rw [if_neg q] at h; exact absurd h.symm hc
/-- place, first, second, whether there is a first -/
abbrev pS : Type := Nat × Nat × Nat × Nat
def gv3 (f1 f2 hf v : Nat) : Nat × Nat × Nat := if hf = 0 then (v, f2, 1) else (f1, v, hf)
def pGv (q : pS) (v : Nat) : pS := (q.1, gv3 q.2.1 q.2.2.1 q.2.2.2 v)
def pAt (q : pS) (a : Nat) : pS := (a, q.2)
abbrev isSy (c : Nat) : Prop := 97 ≤ c ∧ c < 105
abbrev isDg (c : Nat) : Prop := 48 ≤ c ∧ c ≤ 57
def pSign (n : Nat) (s : Nat → Nat) (c : Nat) (q : pS) : Bool × pS := if sgN n s q.1 = c then (true, pAt q (q.1 + 1)) else (false, q)
def pSym (n : Nat) (s : Nat → Nat) (q : pS) : Bool × pS := if isSy (sgN n s q.1) then (true, pAt (pGv q (sgN n s q.1)) (q.1 + 1)) else (false, q)
def pEnd (n : Nat) (s : Nat → Nat) (a : Nat) : Nat → Nat
  | 0 => a
  | k + 1 => if pEnd n s a k < n ∧ isSy (sgN n s (pEnd n s a k)) then pEnd n s a k + 1 else pEnd n s a k
def pSyms (n : Nat) (s : Nat → Nat) (q : pS) : Bool × pS := (decide (q.1 < pEnd n s q.1 n), pAt (pGv (pGv q q.1) (pEnd n s q.1 n)) (pEnd n s q.1 n))
def pDg (n : Nat) (s : Nat → Nat) (a : Nat) : Nat → Nat × Nat
  | 0 => (0, 0)
  | k + 1 => if (pDg n s a k).1 = k ∧ isDg (sgN n s (a + k)) then (k + 1, (pDg n s a k).2 * 10 + (sgN n s (a + k) - 48)) else pDg n s a k
def pNum (n : Nat) (s : Nat → Nat) (m : Nat) (q : pS) : Bool × pS := (decide (0 < (pDg n s q.1 m).1), pAt (pGv q (pDg n s q.1 m).2) (q.1 + (pDg n s q.1 m).1))
def pPart (n : Nat) (s : Nat → Nat) (c : Nat) (q : pS) : Bool × pS := if c = 68 then pNum n s 1 q else if c = 76 then pSyms n s q else if c = 78 then pNum n s 3 q else if c = 83 then pSym n s q else pSign n s c q
def pForm (n : Nat) (s g : Nat → Nat) (a : Nat) : Nat → Bool × pS
  | 0 => (true, a, 0, 0, 0)
  | k + 1 => if (pForm n s g a k).1 = true then pPart n s (g k) (pForm n s g a k).2 else pForm n s g a k
def pTry (n : Nat) (s : Nat → Nat) (a c : Nat) : Bool × pS := pForm n s (frm c) a (fln c)
def pCmd (n : Nat) (s : Nat → Nat) (a : Nat) : Nat → Nat × Nat
  | 0 => (0, a)
  | k + 1 => if (pCmd n s a k).1 < k then pCmd n s a k else if (pTry n s a k).1 = true then (k, (pCmd n s a k).2) else (k + 1, if (pCmd n s a k).2 < (pTry n s a k).2.1 then (pTry n s a k).2.1 else (pCmd n s a k).2)
theorem pForm_stop {n : Nat} {s g : Nat → Nat} {a k : Nat} (h : (pForm n s g a k).1 = false) : ∀ j, pForm n s g a (k + j) = pForm n s g a k
  | 0 => rfl
  | j + 1 => by
    show (if (pForm n s g a (k + j)).1 = true then _ else pForm n s g a (k + j)) = _
    rw [pForm_stop h j, if_neg (by rw [h]; decide)]
theorem pEnd_stop {n : Nat} {s : Nat → Nat} {a k : Nat} (h : ¬ (pEnd n s a k < n ∧ isSy (sgN n s (pEnd n s a k)))) : ∀ j, pEnd n s a (k + j) = pEnd n s a k
  | 0 => rfl
  | j + 1 => by
    show (if pEnd n s a (k + j) < n ∧ isSy (sgN n s (pEnd n s a (k + j))) then _ else pEnd n s a (k + j)) = _
    rw [pEnd_stop h j, if_neg h]
theorem pEnd_le {n : Nat} {s : Nat → Nat} {a : Nat} (h : a ≤ n) : ∀ k, pEnd n s a k ≤ n
  | 0 => h
  | k + 1 => by
    have h1 := pEnd_le (s := s) h k
    unfold pEnd
    split
    · omega
    · exact h1
theorem pDg_stop {n : Nat} {s : Nat → Nat} {a k : Nat} (h : ¬ isDg (sgN n s (a + k))) (hk : (pDg n s a k).1 = k) : ∀ j, pDg n s a (k + j) = pDg n s a k
  | 0 => rfl
  | j + 1 => by
    show (if (pDg n s a (k + j)).1 = k + j ∧ isDg (sgN n s (a + (k + j))) then _ else pDg n s a (k + j)) = _
    rw [pDg_stop h hk j]
    by_cases e : j = 0
    · subst e
      rw [if_neg (fun q => h q.2)]
    · rw [if_neg (fun q => by have := q.1; omega)]
theorem pDg_le {n : Nat} {s : Nat → Nat} {a : Nat} (ha : a ≤ n) : ∀ k, (pDg n s a k).1 ≤ k ∧ a + (pDg n s a k).1 ≤ n ∧ (pDg n s a k).2 < 10 ^ k
  | 0 => ⟨Nat.le_refl 0, ha, Nat.one_pos⟩
  | k + 1 => by
    have h := pDg_le (s := s) ha k
    have e : 10 ^ (k + 1) = 10 ^ k * 10 := Nat.pow_succ _ _
    unfold pDg
    split
    · rename_i q
      have h2 := sgN_in (n := n) (s := s) (a := a + k) rfl (by have := q.2.1; omega)
      have h3 := q.2.2
      refine ⟨Nat.le_refl _, by show a + (k + 1) ≤ n; omega, ?_⟩
      show (pDg n s a k).2 * 10 + (sgN n s (a + k) - 48) < 10 ^ (k + 1)
      omega
    · exact ⟨by omega, h.2.1, by omega⟩
def pB (n : Nat) (q : pS) : Prop := q.1 ≤ n ∧ q.2.1 ≤ 1000 ∧ q.2.2.1 ≤ 1000 ∧ q.2.2.2 ≤ 1
theorem pGv_B {n v : Nat} {q : pS} (h : pB n q) (hv : v ≤ 1000) : pB n (pGv q v) := by
  unfold pGv gv3
  split
  · exact ⟨h.1, hv, h.2.2.1, Nat.le_refl 1⟩
  · exact ⟨h.1, h.2.1, hv, h.2.2.2⟩
theorem pAt_B {n a : Nat} {q : pS} (h : pB n q) (ha : a ≤ n) : pB n (pAt q a) := ⟨ha, h.2⟩
theorem pPart_B {n : Nat} {s : Nat → Nat} {c : Nat} {q : pS} (hn : n ≤ 60) (hc : c ≠ 0) (h : pB n q) : pB n (pPart n s c q).2 := by
  have hnum : ∀ m, m ≤ 3 → pB n (pNum n s m q).2 := by
    intro m hm
    have h1 := pDg_le (s := s) h.1 m
    have h2 : 10 ^ m ≤ 10 ^ 3 := Nat.pow_le_pow_right (by decide) hm
    exact pAt_B (pGv_B h (by omega)) h1.2.1
  unfold pPart
  split
  · exact hnum 1 (by decide)
  · split
    · have h1 := pEnd_le (s := s) h.1 n
      have h3 := h.1
      exact pAt_B (pGv_B (pGv_B h (by omega)) (by omega)) h1
    · split
      · exact hnum 3 (by decide)
      · split
        · unfold pSym
          split
          · rename_i q1
            have h2 := sgN_in (n := n) (s := s) (a := q.1) rfl (by have := q1.1; omega)
            exact pAt_B (pGv_B h (by have := q1.2; omega)) h2
          · exact h
        · unfold pSign
          split
          · rename_i q1
            have h2 := sgN_in q1 hc
            exact pAt_B h h2
          · exact h
theorem pForm_B {n : Nat} {s g : Nat → Nat} {a : Nat} (hn : n ≤ 60) (ha : a ≤ n) : ∀ k, (∀ j, j < k → g j ≠ 0) → pB n (pForm n s g a k).2
  | 0, _ => ⟨ha, Nat.zero_le _, Nat.zero_le _, Nat.zero_le _⟩
  | k + 1, hg => by
    have h := pForm_B (s := s) hn ha k (fun j hj => hg j (by omega))
    unfold pForm
    split
    · exact pPart_B hn (hg k (by omega)) h
    · exact h
theorem pTry_B {n : Nat} {s : Nat → Nat} {a c : Nat} (hn : n ≤ 60) (ha : a ≤ n) (hc : c < 10) : pB n (pTry n s a c).2 := pForm_B hn ha _ (fun j hj => ((frm_ok c hc).2 j hj).1)
theorem pCmd_le {n : Nat} {s : Nat → Nat} {a : Nat} (hn : n ≤ 60) (ha : a ≤ n) : ∀ k, k ≤ 10 → (pCmd n s a k).1 ≤ k ∧ (pCmd n s a k).2 ≤ n
  | 0, _ => ⟨Nat.le_refl 0, ha⟩
  | k + 1, hk => by
    have h := pCmd_le (s := s) hn ha k (by omega)
    have h2 := (pTry_B (s := s) hn ha (show k < 10 by omega)).1
    unfold pCmd
    split
    · exact ⟨by omega, h.2⟩
    · split
      · exact ⟨Nat.le_succ k, h.2⟩
      · refine ⟨Nat.le_refl _, ?_⟩
        show (if (pCmd n s a k).2 < (pTry n s a k).2.1 then (pTry n s a k).2.1 else (pCmd n s a k).2) ≤ n
        split
        · exact h2
        · exact h.2
theorem pCmd_found {n : Nat} {s : Nat → Nat} {a c : Nat} (h : (pCmd n s a c).1 < c) : ∀ j, pCmd n s a (c + j) = pCmd n s a c
  | 0 => rfl
  | j + 1 => by
    show (if (pCmd n s a (c + j)).1 < c + j then pCmd n s a (c + j) else _) = _
    rw [pCmd_found h j, if_pos (by omega)]
theorem pCmd_hit {n : Nat} {s : Nat → Nat} {a c fu : Nat} (h : pCmd n s a c = (c, fu)) (ht : (pTry n s a c).1 = true) (hc : c < 10) : (pCmd n s a 10).1 = c := by
  have e : pCmd n s a (c + 1) = (c, fu) := by
    unfold pCmd
    rw [h, if_neg (by omega), if_pos ht]
  have e2 := pCmd_found (n := n) (s := s) (a := a) (c := c + 1) (by rw [e]; exact Nat.lt_succ_self c) (10 - (c + 1))
  rw [show c + 1 + (10 - (c + 1)) = 10 by omega, e] at e2
  rw [e2]
/-- the steps: how many, and their rows -/
abbrev kS : Type := Nat × (Nat → Nat) × (Nat → Nat) × (Nat → Nat) × (Nat → Nat)
def kStep (q : kS) (c one two cc : Nat) : kS := if q.1 < 60 then (q.1 + 1, updN q.2.1 q.1 c, updN q.2.2.1 q.1 one, updN q.2.2.2.1 q.1 two, updN q.2.2.2.2 q.1 cc) else q
def kDraft (n : Nat) (s : Nat → Nat) (q : kS) (cc b : Nat) : Nat → kS
  | 0 => q
  | k + 1 => kStep (kDraft n s q cc b k) 1 (sgN n s (b + k)) 0 cc
def kCmd (n : Nat) (s : Nat → Nat) (q : kS) (c f1 f2 cc : Nat) : kS := if c = 1 then kDraft n s q cc f1 (f2 - f1) else kStep q c f1 f2 cc
def xPk (F : xF) (g : Nat) (ce : Nat → Nat) (K : kS) : Prop := K.1 ≤ 60 ∧ (∃ fv : Nat → Value, F (g + 3) = some (.inr (6, 60, fv)) ∧ ∀ j, j < K.1 → fv j = .ref (ce (K.2.1 j)) ∧ K.2.1 j < 10) ∧ (∃ g1 : Nat → Nat, F (g + 4) = some (.inr (0, 60, fun b9 => .int (nI (g1 b9)))) ∧ ∀ j, j < K.1 → g1 j = K.2.2.1 j) ∧ (∃ g2 : Nat → Nat, F (g + 5) = some (.inr (0, 60, fun b9 => .int (nI (g2 b9)))) ∧ ∀ j, j < K.1 → g2 j = K.2.2.2.1 j) ∧ ∃ g3 : Nat → Nat, F (g + 6) = some (.inr (0, 60, fun b9 => .int (nI (g3 b9)))) ∧ ∀ j, j < K.1 → g3 j = K.2.2.2.2 j
theorem xPk_fr {F F1 : xF} {g : Nat} {ce : Nat → Nat} {K : kS} (h : xPk F g ce K) (hf : ∀ a, g + 3 ≤ a → a < g + 3 + 4 → F1 a = F a) : xPk F1 g ce K := by
  obtain ⟨h0, ⟨fv, h1, h2⟩, ⟨g1, h3, h4⟩, ⟨g2, h5, h6⟩, g3, h7, h8⟩ := h
  exact ⟨h0, ⟨fv, (hf _ (by omega) (by omega)).trans h1, h2⟩, ⟨g1, (hf _ (by omega) (by omega)).trans h3, h4⟩, ⟨g2, (hf _ (by omega) (by omega)).trans h5, h6⟩, g3, (hf _ (by omega) (by omega)).trans h7, h8⟩
theorem xPk_0 {F : xF} {g : Nat} {ce : Nat → Nat} {K : kS} (h : xPk F g ce K) : xPk F g ce (0, fun _ => 0, fun _ => 0, fun _ => 0, fun _ => 0) := by
  obtain ⟨h0, ⟨fv, h1, h2⟩, ⟨g1, h3, h4⟩, ⟨g2, h5, h6⟩, g3, h7, h8⟩ := h
  exact ⟨Nat.zero_le _, ⟨fv, h1, fun j hj => absurd hj (Nat.not_lt_zero j)⟩, ⟨g1, h3, fun j hj => absurd hj (Nat.not_lt_zero j)⟩, ⟨g2, h5, fun j hj => absurd hj (Nat.not_lt_zero j)⟩, g3, h7, fun j hj => absurd hj (Nat.not_lt_zero j)⟩
theorem upd_row {f : Nat → Nat} {g : Nat → Nat} {k x : Nat} (h : ∀ j, j < k → g j = f j) : ∀ j, j < k + 1 → updN g k x j = updN f k x j := by
  intro j hj
  by_cases e : j = k
  · rw [e, updN_eq, updN_eq]
  · rw [updN_ne e, updN_ne e]
    exact h j (by omega)
/-- the whole reading: state (0: on; 1: a program; 2: malformed), place, steps, commands -/
abbrev rS : Type := Nat × Nat × kS × Nat
def rdK (n : Nat) (s : Nat → Nat) (q : kS) (a cc : Nat) : kS := kCmd n s q (pCmd n s a 10).1 (pTry n s a (pCmd n s a 10).1).2.2.1 (pTry n s a (pCmd n s a 10).1).2.2.2.1 cc
def rdA (n : Nat) (s : Nat → Nat) (a : Nat) : Nat := (pTry n s a (pCmd n s a 10).1).2.1
def rdN (n : Nat) (s : Nat → Nat) (q : rS) : rS :=
  if q.1 = 0 then
    if (pCmd n s q.2.1 10).1 < 10 then
      if n ≤ rdA n s q.2.1 then (1, rdA n s q.2.1, rdK n s q.2.2.1 q.2.1 q.2.2.2, q.2.2.2 + 1)
      else if sgN n s (rdA n s q.2.1) = 59 then (0, rdA n s q.2.1 + 1, rdK n s q.2.2.1 q.2.1 q.2.2.2, q.2.2.2 + 1)
      else (2, rdA n s q.2.1, rdK n s q.2.2.1 q.2.1 q.2.2.2, q.2.2.2 + 1)
    else (2, (pCmd n s q.2.1 10).2, q.2.2.1, q.2.2.2)
  else q
def rdS (n : Nat) (s : Nat → Nat) : Nat → rS
  | 0 => (0, 0, (0, fun _ => 0, fun _ => 0, fun _ => 0, fun _ => 0), 0)
  | k + 1 => rdN n s (rdS n s k)
theorem rdS_stop {n : Nat} {s : Nat → Nat} {k : Nat} (h : ¬ (rdS n s k).1 = 0) : ∀ j, rdS n s (k + j) = rdS n s k
  | 0 => rfl
  | j + 1 => by
    show rdN n s (rdS n s (k + j)) = _
    rw [rdS_stop h j]
    unfold rdN
    rw [if_neg h]
theorem rdS_end {n : Nat} {s : Nat → Nat} {k : Nat} {r : rS} (h : rdS n s (k + 1) = r) (hk : k < 60) (hr : ¬ r.1 = 0) : rdS n s 60 = r := by
  have e := rdS_stop (n := n) (s := s) (k := k + 1) (by rw [h]; exact hr) (60 - (k + 1))
  rw [show k + 1 + (60 - (k + 1)) = 60 by omega, h] at e
  exact e









theorem upd_cmd {f : Nat → Value} {ce cf : Nat → Nat} {k c : Nat} (h : ∀ j, j < k → f j = .ref (ce (cf j)) ∧ cf j < 10) (hc : c < 10) : ∀ j, j < k + 1 → updV f k (.ref (ce c)) j = .ref (ce (updN cf k c j)) ∧ updN cf k c j < 10 := by
  intro j hj
  by_cases e : j = k
  · rw [e, updN_eq]
    exact ⟨if_pos rfl, hc⟩
  · rw [updN_ne e]
    have h2 := h j (by omega)
    exact ⟨(if_neg e).trans h2.1, h2.2⟩





