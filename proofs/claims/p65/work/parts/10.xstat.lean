/-! statics: what stands from the start, below the old size -/
def xA0 (P : xP) : Nat → Prop := fun q => P.2.2.2.1 ≤ q
section XS
variable {P : xP} {Θ : xT} {cc : ByteArray} {own : String} {nL d mc ms pc : Nat} {L : List (Option Value)} {st : List Value} {F : xF} {z k n : Nat}
theorem x_old {H : Heap} (hW : xW P F z H) {a : Nat} (ha : ¬ xA0 P a) : H[a]? = P.2.2.1[a]? := hW.2.2.2.1 a (Nat.lt_of_not_le ha)
theorem x_gets (hC : xC P Θ cc own nL d mc ms) {C nm ds : String} {v : Value} {index : Nat} (hz : ∀ U, P.2.2.2.2 U → va_Z C nm ds v (xA0 P) U P.2.2.1) (hk : Cond.fieldLink own index C nm ds ∈ x_tbl) (hd : decode cc pc = .ok (.getstatic index, 3)) (kk : xX P Θ (pc + 3) L (v :: st) F z k n) : xX P Θ pc L st F z k n := by
  intro H locs ls hW hl hx
  obtain ⟨U0, hal, hks⟩ := hC.2.2.2.2.2.1.2.2.2
  obtain ⟨cf, kf, fi, f, a, cell, h1, h2, h3, h4, h5, h6, h7, h8⟩ := va_Z.moved hal (hz U0 hks)
  exact W.gets hC.1 hC.2.1 hC.2.2.2.1 (hC.2.2.2.2.1 _ hk) h1 h2 h3 h4 (by rw [x_old hW h8]; exact h5) (fun e => by rw [e] at h6; cases h6) h7 (g := F0 Θ.2.2.2.2.1 pc ls st) rfl hd (kk H locs ls hW hl hx)
theorem x_sti (hC : xC P Θ cc own nL d mc ms) {t N j : Nat} {f : Nat → Value} {i : Int32} {x : Int32} (ht : ∀ U, P.2.2.2.2 U → va_T .int t N f (xA0 P) U P.2.2.1) (hi : xix i N j) (hv : f j = .int x) (hd : decode cc pc = .ok (.iaload, 1)) (kk : xX P Θ (pc + 1) L (.int x :: st) F z k n) : xX P Θ pc L (.int i :: .ref t :: st) F z k n := by
  intro H locs ls hW hl hx
  obtain ⟨U0, hal, hks⟩ := hC.2.2.2.2.2.1.2.2.2
  obtain ⟨cell, h1, h2, h3, h4, h5, h6, h7⟩ := va_T.moved hal (ht U0 hks)
  have e1 := xix_in hi
  have e2 := xix_cl hi
  exact W.iald (v := .int x) hC.1 hC.2.1 (by rw [x_old hW h7]; exact h1) h2 h3 (fun q => e1 (q.elim Or.inl (fun q => Or.inr (Nat.le_trans h4 q)))) (by rw [e2, h6 j hi.2.1, hv]) (g := F0 Θ.2.2.2.2.1 pc ls (.int i :: .ref t :: st)) rfl rfl hd (kk H locs ls hW hl hx)
theorem x_stq (hC : xC P Θ cc own nL d mc ms) {t N j : Nat} {f : Nat → Value} {ty : FieldType} {i : Int32} {x : Value} (ht : ∀ U, P.2.2.2.2 U → va_T ty t N f (xA0 P) U P.2.2.1) (hty : ty.isReference = true) (hi : xix i N j) (hv : f j = x) (hd : decode cc pc = .ok (.aaload, 1)) (kk : xX P Θ (pc + 1) L (x :: st) F z k n) : xX P Θ pc L (.int i :: .ref t :: st) F z k n := by
  intro H locs ls hW hl hx
  obtain ⟨U0, hal, hks⟩ := hC.2.2.2.2.2.1.2.2.2
  obtain ⟨cell, h1, h2, h3, h4, h5, h6, h7⟩ := va_T.moved hal (ht U0 hks)
  have e1 := xix_in hi
  have e2 := xix_cl hi
  exact W.aald (v := x) (ty := ty) hC.1 hC.2.1 (by rw [x_old hW h7]; exact h1) h2 hty h3 (fun q => e1 (q.elim Or.inl (fun q => Or.inr (Nat.le_trans h4 q)))) (by rw [e2, h6 j hi.2.1, hv]) (g := F0 Θ.2.2.2.2.1 pc ls (.int i :: .ref t :: st)) rfl rfl hd (kk H locs ls hW hl hx)
theorem x_stlen (hC : xC P Θ cc own nL d mc ms) {t N : Nat} {f : Nat → Value} {ty : FieldType} {v : Int32} (ht : ∀ U, P.2.2.2.2 U → va_T ty t N f (xA0 P) U P.2.2.1) (hv : nI N = v) (hd : decode cc pc = .ok (.arraylength, 1)) (kk : xX P Θ (pc + 1) L (.int v :: st) F z k n) : xX P Θ pc L (.ref t :: st) F z k n := by
  intro H locs ls hW hl hx
  obtain ⟨U0, hal, hks⟩ := hC.2.2.2.2.2.1.2.2.2
  obtain ⟨cell, h1, h2, h3, h4, h5, h6, h7⟩ := va_T.moved hal (ht U0 hks)
  exact W.alen hC.1 hC.2.1 (by rw [x_old hW h7]; exact h1) h2 (h5.trans hv) (g := F0 Θ.2.2.2.2.1 pc ls (.ref t :: st)) rfl rfl hd (kk H locs ls hW hl hx)
theorem x_getS (hC : xC P Θ cc own nL d mc ms) {oc nm ds : String} {v : Value} {t index : Nat} (hz : ∀ U, P.2.2.2.2 U → va_OF oc nm ds v t (xA0 P) U P.2.2.1) (hk : Cond.fieldLink own index oc nm ds ∈ x_tbl) (hd : decode cc pc = .ok (.getfield index, 3)) (kk : xX P Θ (pc + 3) L (v :: st) F z k n) : xX P Θ pc L (.ref t :: st) F z k n := by
  intro H locs ls hW hl hx
  obtain ⟨U0, hal, hks⟩ := hC.2.2.2.2.2.1.2.2.2
  obtain ⟨cf, kf, fi, f, cell, h1, h2, h3, h4, h5, h6⟩ := va_OF.moved hal (hz U0 hks)
  exact W.getf hC.1 hC.2.1 hC.2.2.2.1 (hC.2.2.2.2.1 _ hk) h1 h2 (by rw [x_old hW h6]; exact h3) h4 h5 (g := F0 Θ.2.2.2.2.1 pc ls (.ref t :: st)) rfl rfl hd (kk H locs ls hW hl hx)
end XS
def remT (j : Nat) : Nat := [0, 3, 6, 5, 12, 15, 10, 9, 11, 8, 13, 14, 7, 4, 1, 2].getD j 0
/-- REMAINDERS stands at rt -/
def xSR (P : xP) (rt : Nat) : Prop := (∀ U, P.2.2.2.2 U → va_Z "MessageCoder" "REMAINDERS" "[I" (.ref rt) (xA0 P) U P.2.2.1) ∧ ∀ U, P.2.2.2.2 U → va_T .int rt 16 (fun j => .int (nI (remT j))) (xA0 P) U P.2.2.1

