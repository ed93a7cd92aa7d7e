/-! the reference: one command -/
def sgX (n : Nat) (s : Nat → Nat) (a : Nat) : Nat := if a < n then s a else 4294967295
theorem sgX_I (n : Nat) (s : Nat → Nat) (a : Nat) : sgI n s a = nI (sgX n s a) := by
  unfold sgI sgX
  by_cases h : a < n
  · rw [if_pos h, if_pos h]
  · rw [if_neg h, if_neg h]
    decide
def ltr (j : Nat) : Nat := if j = 4 then 120 else frm j 0
theorem cmd_def {P : xP} {Θ : xT} {cc : ByteArray} {own : String} {nL d mc ms pc : Nat} {L : List (Option Value)} {st : List Value} {F : xF} {z k n : Nat} (hC : xC P Θ cc own nL d mc ms) {len : Nat} {tgt : Nat} {ty : Nat} {ip : Nat → Nat} {h : Nat} (hd : decode cc pc = .ok (.tableswitch 250 99 119 #[113, 105, 250, 215, 250, 160, 250, 250, 250, 168, 250, 250, 250, 132, 250, 243, 202, 250, 250, 250, 97], len)) (ht : (pc : Int) + 250 = (tgt : Int)) (hs : ∀ j, j < ty → ip j < 65536)
    (k1 : ∀ c, (c = 99 ∨ c = 100 ∨ c = 102 ∨ c = 104 ∨ c = 108 ∨ c = 112 ∨ c = 114 ∨ c = 115 ∨ c = 119) → ¬ (h < ty ∧ ip h = c)) (kk : xX P Θ tgt L st F z k n) : xX P Θ pc L (.int (sgI ty ip h) :: st) F z k n := by
  by_cases c : h < ty
  · have hx : sgI ty ip h = nI (ip h) := if_pos c
    have hb := hs h c
    have e1 : (nI (ip h)).toInt = (ip h : Int) := nI_toInt (by omega)
    rw [hx]
    by_cases o : ip h < 99 ∨ 119 < ip h
    · exact x_tableOut hC hd (by rw [e1]; omega) ht kk
    · refine x_tableIn hC hd (by rw [e1]; omega) (by rw [e1]; omega) (off := 250) ?_ ht kk
      rw [e1, show ((ip h : Int) - 99).toNat = ip h - 99 by omega]
      have f : ∀ q, (q = 99 ∨ q = 100 ∨ q = 102 ∨ q = 104 ∨ q = 108 ∨ q = 112 ∨ q = 114 ∨ q = 115 ∨ q = 119) → ip h ≠ q := fun q hq e => k1 q hq ⟨c, e⟩
      have f1 := f 99 (by omega)
      have f2 := f 100 (by omega)
      have f3 := f 102 (by omega)
      have f4 := f 104 (by omega)
      have f5 := f 108 (by omega)
      have f6 := f 112 (by omega)
      have f7 := f 114 (by omega)
      have f8 := f 115 (by omega)
      have f9 := f 119 (by omega)
      generalize hq : ip h - 99 = q
      rcases (show q = 2 ∨ q = 4 ∨ q = 6 ∨ q = 7 ∨ q = 8 ∨ q = 10 ∨ q = 11 ∨ q = 12 ∨ q = 14 ∨ q = 17 ∨ q = 18 ∨ q = 19 by omega) with rfl | rfl | rfl | rfl | rfl | rfl | rfl | rfl | rfl | rfl | rfl | rfl
      all_goals rfl
  · have hx : sgI ty ip h = -1 := if_neg c
    rw [hx]
    exact x_tableOut hC hd (Or.inl (by decide)) ht kk

