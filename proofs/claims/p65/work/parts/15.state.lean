/-! the state as a tuple: weights; draft; queue; frame; received; the four counts -/
abbrev aS : Type := (Nat → Nat) × (Nat × (Nat → Nat)) × (Nat × Nat × (Nat → mS)) × (Nat × (Nat → Nat) × Nat × (Nat → Nat) × (Nat → Nat)) × (Nat × (Nat → Nat)) × Nat × Nat × Nat × Nat
def aS0 : aS := (fun _ => 1, (0, fun _ => 0), (0, 0, fun _ => (0, 0, 0, fun _ => 0)), (0, fun _ => 0, 0, fun _ => 0, fun _ => 1), (0, fun _ => 0), 0, 0, 0, 0)
def xSt (F : xF) (s : Nat) (A : aS) : Prop := F s = some (.inl (7, [.ref (s + 1), .ref (s + 8), .ref (s + 10), .ref (s + 36), .ref (s + 47), .int (nI A.2.2.2.2.2.1), .int (nI A.2.2.2.2.2.2.1), .int (nI A.2.2.2.2.2.2.2.1), .int (nI A.2.2.2.2.2.2.2.2)])) ∧ xCd F (s + 1) A.1 (hLen A.1) (hVal (hLen A.1)) (hOrd (hLen A.1)) (hSum A.1) ∧ xTx F (s + 8) 16 A.2.1.1 A.2.1.2 ∧ (∃ p : Nat → Nat, ∃ m : Nat → mS, xQp F (s + 10) A.2.2.1.1 A.2.2.1.2.1 p m ∧ ∀ i, i < A.2.2.1.1 → m i = A.2.2.1.2.2 i) ∧ xFr F (s + 36) A.2.2.2.1.1 A.2.2.2.1.2.1 A.2.2.2.1.2.2.1 A.2.2.2.1.2.2.2.1 A.2.2.2.1.2.2.2.2 ∧ xTx F (s + 47) 16 A.2.2.2.2.1.1 A.2.2.2.2.1.2
theorem xSt_fr {F F1 : xF} {s : Nat} {A : aS} (h : xSt F s A) (hf : ∀ a, s ≤ a → a < s + 49 → F1 a = F a) : xSt F1 s A := by
  obtain ⟨h0, h1, h2, ⟨p, m, h3, hms⟩, h4, h5⟩ := h
  exact ⟨(hf _ (by omega) (by omega)).trans h0, xCd_fr h1 (fun a q1 q2 => hf a (by omega) (by omega)), xTx_fr h2 (fun a q1 q2 => hf a (by omega) (by omega)), ⟨p, m, xQp_fr h3 (fun a q1 q2 => hf a (by omega) (by omega)), hms⟩, xFr_fr h4 (fun a q1 q2 => hf a (by omega) (by omega)), xTx_fr h5 (fun a q1 q2 => hf a (by omega) (by omega))⟩
theorem i2n_of {p : Int32} (h : 0 ≤ p) : p = nI p.toNatClampNeg := by
  have h1 : (0 : Int) ≤ p.toInt := by
    have h2 := Int32.le_iff_toInt_le.mp h
    rw [Int32.toInt_zero] at h2
    exact h2
  have h3 : p.toInt < 2 ^ 31 := Int32.toInt_lt p
  have h4 : p.toNatClampNeg = p.toInt.toNat := rfl
  refine Int32.toInt_inj.mp ?_
  rw [nI_toInt (by omega), h4]
  omega
theorem i2n_31 {p : Int32} : p.toNatClampNeg < 2 ^ 31 := by
  have h3 : p.toInt < 2 ^ 31 := Int32.toInt_lt p
  have h4 : p.toNatClampNeg = p.toInt.toNat := rfl
  omega
theorem i2n_lt {p : Int32} {n : Nat} (h0 : 0 ≤ p) (h : p < nI n) (hn : n < 2 ^ 31) : p.toNatClampNeg < n := by
  rw [i2n_of h0] at h
  exact (nI_ltI i2n_31 hn).mp h
theorem i2n_le {p : Int32} {n : Nat} (h0 : 0 ≤ p) (h : p ≤ nI n) (hn : n < 2 ^ 31) : p.toNatClampNeg ≤ n := by
  rw [i2n_of h0] at h
  exact (nI_leI i2n_31 hn).mp h
theorem i2n_ge {p : Int32} {n : Nat} (h : nI n ≤ p) (hn : n < 2 ^ 31) : 0 ≤ p ∧ n ≤ p.toNatClampNeg := by
  have h0 : (0 : Int32) ≤ p := by
    have h1 : nI 0 ≤ nI n := (nI_leI (by decide) hn).mpr (Nat.zero_le _)
    exact Int32.le_trans h1 h
  refine ⟨h0, ?_⟩
  rw [i2n_of h0] at h
  exact (nI_leI hn i2n_31).mp h
theorem fsN_ext {P Q : Nat → Bool} : ∀ k, (∀ i, i < k → P i = Q i) → fsN P k = fsN Q k
  | 0, _ => rfl
  | k + 1, h => by
    unfold fsN
    rw [fsN_ext k (fun i hi => h i (by omega)), h k (by omega)]
theorem idAt_ext {m ms : Nat → mS} {k : Nat} {v : Int32} (h : ∀ i, i < k → m i = ms i) : idAt m v k = idAt ms v k := fsN_ext k (fun i hi => by rw [h i hi])
theorem rkM_ext {m ms : Nat → mS} {r : Nat} (hr : m r = ms r) : ∀ k, (∀ i, i < k → m i = ms i) → rkM m r k = rkM ms r k
  | 0, _ => rfl
  | k + 1, h => by
    unfold rkM
    rw [rkM_ext hr k (fun i hi => h i (by omega)), h k (by omega), hr]
theorem rankAt_ext {m ms : Nat → mS} {k : Nat} {v : Int32} (h : ∀ i, i < k → m i = ms i) : rankAt m v k = rankAt ms v k := fsN_ext k (fun i hi => by rw [rkM_ext (h i hi) k h])
theorem shI_k {r k i : Nat} (hr : r < k) (hi : i < k) : shI r k i < k := by
  unfold shI
  split
  · omega
  · split
    · omega
    · split <;> omega
/-! what each change answers, and the state behind it -/
def aWt (A : aS) (c : Nat) (x : Int32) : Int32 × aS := if (97 ≤ c ∧ c < 105) ∧ nI 1 ≤ x ∧ x ≤ nI 99 then (nI (A.1 (c - 97)), (updN A.1 (c - 97) x.toNatClampNeg, A.2)) else (-1, A)
def aDr (A : aS) (c : Nat) : Int32 × aS := if 97 ≤ c ∧ c < 105 then if A.2.1.1 < 16 then (nI (A.2.1.1 + 1), (A.1, (A.2.1.1 + 1, updN A.2.1.2 A.2.1.1 c), A.2.2)) else (-2, A) else (-1, A)
def aCl (A : aS) : Int32 × aS := (nI A.2.1.1, (A.1, (0, A.2.1.2), A.2.2))
def aPo (A : aS) (p : Int32) : Int32 × aS := if 1 ≤ p ∧ p ≤ 5 then if A.2.1.1 = 0 ∨ 8 ≤ A.2.2.1.1 then (-2, A) else (nI A.2.2.1.2.1, (A.1, (0, A.2.1.2), (A.2.2.1.1 + 1, A.2.2.1.2.1 + 1, updA A.2.2.1.2.2 A.2.2.1.1 (A.2.2.1.2.1, p.toNatClampNeg, A.2.1.1, A.2.1.2)), A.2.2.2)) else (-1, A)
def aRm (A : aS) (r : Nat) : aS := (A.1, A.2.1, (A.2.2.1.1 - 1, A.2.2.1.2.1, fun i => A.2.2.1.2.2 (shI r A.2.2.1.1 i)), A.2.2.2)
def aDi (A : aS) (v : Int32) : Int32 × aS := if idAt A.2.2.1.2.2 v A.2.2.1.1 < A.2.2.1.1 then (nI (A.2.2.1.1 - 1), aRm A (idAt A.2.2.1.2.2 v A.2.2.1.1)) else (-3, A)
def prS (e : mS) (p : Nat) : mS := (e.1, p, e.2.2)
def aHu (A : aS) (v p : Int32) : Int32 × aS :=
  if idAt A.2.2.1.2.2 v A.2.2.1.1 < A.2.2.1.1 then
    if 1 ≤ p ∧ p ≤ 5 then (nI (rkM (updA A.2.2.1.2.2 (idAt A.2.2.1.2.2 v A.2.2.1.1) (prS (A.2.2.1.2.2 (idAt A.2.2.1.2.2 v A.2.2.1.1)) p.toNatClampNeg)) (idAt A.2.2.1.2.2 v A.2.2.1.1) A.2.2.1.1), (A.1, A.2.1, (A.2.2.1.1, A.2.2.1.2.1, updA A.2.2.1.2.2 (idAt A.2.2.1.2.2 v A.2.2.1.1) (prS (A.2.2.1.2.2 (idAt A.2.2.1.2.2 v A.2.2.1.1)) p.toNatClampNeg)), A.2.2.2))
    else (-1, A)
  else (-3, A)
def lrnW (w : Nat → Nat) (e : mS) (i : Nat) : Nat := if 99 < w i + tmOf e.2.2.2 (97 + i) e.2.2.1 then 99 else w i + tmOf e.2.2.2 (97 + i) e.2.2.1
def aLe (A : aS) (v : Int32) : Int32 × aS := if idAt A.2.2.1.2.2 v A.2.2.1.1 < A.2.2.1.1 then (nI (sumN (lrnW A.1 (A.2.2.1.2.2 (idAt A.2.2.1.2.2 v A.2.2.1.1))) 8), (lrnW A.1 (A.2.2.1.2.2 (idAt A.2.2.1.2.2 v A.2.2.1.1)), A.2)) else (-3, A)
def nblk (w : Nat → Nat) (e : mS) : Nat := (bitsN (hLen w) e.2.2.2 e.2.2.1 + 3) / 4
def blks (w : Nat → Nat) (e : mS) : Nat → Nat := fun j => blkN (fourB (bitsN (hLen w) e.2.2.2 e.2.2.1) (splB (hLen w) (hVal (hLen w)) e.2.2.2 e.2.2.1) 0 (4 * j))
def aFr (A : aS) (e : mS) : aS := (A.1, A.2.1, A.2.2.1, (nblk A.1 e, blks A.1 e, e.2.2.1, e.2.2.2, A.1), A.2.2.2.2.1, A.2.2.2.2.2.1 + 1, A.2.2.2.2.2.2)
def aSe (A : aS) : Int32 × aS := if rankAt A.2.2.1.2.2 (nI 0) A.2.2.1.1 < A.2.2.1.1 then (nI (nblk A.1 (A.2.2.1.2.2 (rankAt A.2.2.1.2.2 (nI 0) A.2.2.1.1)) * 7), aRm (aFr A (A.2.2.1.2.2 (rankAt A.2.2.1.2.2 (nI 0) A.2.2.1.1))) (rankAt A.2.2.1.2.2 (nI 0) A.2.2.1.1)) else (-3, A)
def flpB (b : Nat → Nat) (q : Nat) : Nat → Nat := updN b (q / 7) (b (q / 7) ^^^ 2 ^ (7 - (q % 7 + 1)))
def aFl (A : aS) (i : Int32) : Int32 × aS := if 0 ≤ i ∧ i < nI (A.2.2.2.1.1 * 7) then (nI (dmgN (flpB A.2.2.2.1.2.1 i.toNatClampNeg) A.2.2.2.1.1), (A.1, A.2.1, A.2.2.1, (A.2.2.2.1.1, flpB A.2.2.2.1.2.1 i.toNatClampNeg, A.2.2.2.1.2.2), A.2.2.2.2)) else (-4, A)
def decA (A : aS) : dS := decS (hLen A.2.2.2.1.2.2.2.2) (hVal (hLen A.2.2.2.1.2.2.2.2)) A.2.2.2.1.2.1 A.2.2.2.1.2.2.1 (A.2.2.2.1.1 * 4)
abbrev sameA (A : aS) : Prop := (decA A).2.2.1 = A.2.2.2.1.2.2.1 ∧ eqTo (decA A).2.2.2 A.2.2.2.1.2.2.2.1 (decA A).2.2.1 = true
def aRe (A : aS) : Int32 × aS := if 0 < A.2.2.2.1.1 then (nI (dmgN A.2.2.2.1.2.1 A.2.2.2.1.1), (A.1, A.2.1, A.2.2.1, (0, A.2.2.2.1.2), ((decA A).2.2.1, (decA A).2.2.2), A.2.2.2.2.2.1, A.2.2.2.2.2.2.1 + 1, A.2.2.2.2.2.2.2.1 + dmgN A.2.2.2.1.2.1 A.2.2.2.1.1, if sameA A then A.2.2.2.2.2.2.2.2 else A.2.2.2.2.2.2.2.2 + 1)) else (-3, A)

theorem d_State_putWeight_0 : decode prog_11_method_3_code 0 = .ok (.iload_n 1, 1) := by decide +kernel
theorem d_State_putWeight_1 : decode prog_11_method_3_code 1 = .ok (.invokestatic 70, 3) := by decide +kernel
theorem d_State_putWeight_4 : decode prog_11_method_3_code 4 = .ok (.ifCond .eq 14, 3) := by decide +kernel
theorem d_State_putWeight_7 : decode prog_11_method_3_code 7 = .ok (.iload_n 2, 1) := by decide +kernel
theorem d_State_putWeight_8 : decode prog_11_method_3_code 8 = .ok (.iconst 1, 1) := by decide +kernel
theorem d_State_putWeight_9 : decode prog_11_method_3_code 9 = .ok (.if_icmp .lt 9, 3) := by decide +kernel
theorem d_State_putWeight_12 : decode prog_11_method_3_code 12 = .ok (.iload_n 2, 1) := by decide +kernel
theorem d_State_putWeight_13 : decode prog_11_method_3_code 13 = .ok (.bipush 99, 2) := by decide +kernel
theorem d_State_putWeight_15 : decode prog_11_method_3_code 15 = .ok (.if_icmp .le 5, 3) := by decide +kernel
theorem d_State_putWeight_18 : decode prog_11_method_3_code 18 = .ok (.iconst (-1), 1) := by decide +kernel
theorem d_State_putWeight_19 : decode prog_11_method_3_code 19 = .ok (.ireturn, 1) := by decide +kernel
theorem d_State_putWeight_20 : decode prog_11_method_3_code 20 = .ok (.aload_n 0, 1) := by decide +kernel
theorem d_State_putWeight_21 : decode prog_11_method_3_code 21 = .ok (.getfield 12, 3) := by decide +kernel
theorem d_State_putWeight_24 : decode prog_11_method_3_code 24 = .ok (.getfield 74, 3) := by decide +kernel
theorem d_State_putWeight_27 : decode prog_11_method_3_code 27 = .ok (.iload_n 1, 1) := by decide +kernel
theorem d_State_putWeight_28 : decode prog_11_method_3_code 28 = .ok (.bipush 97, 2) := by decide +kernel
theorem d_State_putWeight_30 : decode prog_11_method_3_code 30 = .ok (.isub, 1) := by decide +kernel
theorem d_State_putWeight_31 : decode prog_11_method_3_code 31 = .ok (.iaload, 1) := by decide +kernel
theorem d_State_putWeight_32 : decode prog_11_method_3_code 32 = .ok (.istore_n 3, 1) := by decide +kernel
theorem d_State_putWeight_33 : decode prog_11_method_3_code 33 = .ok (.aload_n 0, 1) := by decide +kernel
theorem d_State_putWeight_34 : decode prog_11_method_3_code 34 = .ok (.getfield 12, 3) := by decide +kernel
theorem d_State_putWeight_37 : decode prog_11_method_3_code 37 = .ok (.getfield 74, 3) := by decide +kernel
theorem d_State_putWeight_40 : decode prog_11_method_3_code 40 = .ok (.iload_n 1, 1) := by decide +kernel
theorem d_State_putWeight_41 : decode prog_11_method_3_code 41 = .ok (.bipush 97, 2) := by decide +kernel
theorem d_State_putWeight_43 : decode prog_11_method_3_code 43 = .ok (.isub, 1) := by decide +kernel
theorem d_State_putWeight_44 : decode prog_11_method_3_code 44 = .ok (.iload_n 2, 1) := by decide +kernel
theorem d_State_putWeight_45 : decode prog_11_method_3_code 45 = .ok (.iastore, 1) := by decide +kernel
theorem d_State_putWeight_46 : decode prog_11_method_3_code 46 = .ok (.aload_n 0, 1) := by decide +kernel
theorem d_State_putWeight_47 : decode prog_11_method_3_code 47 = .ok (.getfield 12, 3) := by decide +kernel
theorem d_State_putWeight_50 : decode prog_11_method_3_code 50 = .ok (.invokevirtual 78, 3) := by decide +kernel
theorem d_State_putWeight_53 : decode prog_11_method_3_code 53 = .ok (.iload_n 3, 1) := by decide +kernel
theorem d_State_putWeight_54 : decode prog_11_method_3_code 54 = .ok (.ireturn, 1) := by decide +kernel
set_option maxHeartbeats 4000000 in
set_option maxRecDepth 20000 in
theorem c_State_putWeight {P : xP} {F : xF} {z : Nat} {s : Nat} {A : aS} {c : Nat} {x : Int32} (hs : xSt F (s) (A)) (hc0 : c < 65536) : xM P xy_State_putWeight [.ref s, .int (nI (c)), .int x] F (z) 0 0 (fun r9 F9 z9 => r9 = some (.int ((aWt A c x).1)) ∧ z9 = z ∧ xSt F9 (s) ((aWt A c x).2) ∧ (∀ a9 : Nat, (a9 < s ∨ s + 49 ≤ a9) → F9 a9 = F a9)) := by
  refine xM_i .int rfl (Nat.le_of_ble_eq_true rfl) (L0 := [some (.ref s), some (.int (nI (c))), some (.int x), none]) rfl rfl fun Θ hC hret => ?_
  have hag : ∀ a9 : Nat, (a9 < s ∨ s + 49 ≤ a9) → F a9 = F a9 := fun a9 _ => rfl
  obtain ⟨w, ⟨dn, ds⟩, ⟨k, nx, ms⟩, ⟨fk, fb, ftn, fts, fw⟩, ⟨rn, rs⟩, c1, c2, c3, c4⟩ := A
  obtain ⟨h0, h1, h2, ⟨p, m, h3, hms⟩, h4, h5⟩ := id hs
  have hms : ∀ i, i < k → m i = ms i := hms
  have h0 : F (s) = some (.inl (7, [.ref (s + 1), .ref (s + 8), .ref (s + 10), .ref (s + 36), .ref (s + 47), .int (nI (c1)), .int (nI (c2)), .int (nI (c3)), .int (nI (c4))])) := h0
  have h1 : xCd F (s + 1) (w) ((hLen w)) ((hVal (hLen w))) ((hOrd (hLen w))) ((hSum w)) := h1
  have h2 : xTx F (s + 8) (16) (dn) (ds) := h2
  have h3 : xQp F (s + 10) (k) (nx) (p) (m) := h3
  have h4 : xFr F (s + 36) (fk) (fb) (ftn) (fts) (fw) := h4
  have h5 : xTx F (s + 47) (16) (rn) (rs) := h5
  have hk8 : k ≤ 8 := h3.2.1.1
  refine x_iload_n hC d_State_putWeight_0 rfl rfl ?_
  refine x_callS hC ks_State_70 (c_MessageCoder_isSymbol (hcb := by omega)) (by decide) rfl rfl rfl (Nat.le_of_ble_eq_true rfl) (by decide) d_State_putWeight_1 (fun r9 F9 z9 hp9 => ?_)
  obtain ⟨rfl, h9b, h9c⟩ := hp9
  rw [h9b, h9c]
  clear h9b h9c F9 z9
  refine x_ifB_eq hC d_State_putWeight_4 (tgt := 18) (by decide) (fun c_4 => ?_) (fun c_4 => ?_)
  · skip
    refine x_iconst hC d_State_putWeight_18 (v := -1) (by decide) ?_
    refine hret _ _ _ _ _ _ _ d_State_putWeight_19 (by decide) (by decide) rfl ?_
    have e9 : aWt (w, (dn, ds), (k, nx, ms), (fk, fb, ftn, fts, fw), (rn, rs), c1, c2, c3, c4) c x = (-1, (w, (dn, ds), (k, nx, ms), (fk, fb, ftn, fts, fw), (rn, rs), c1, c2, c3, c4)) := if_neg (fun h9 => c_4 h9.1)
    exact ⟨(congrArg (fun q => some (Value.int q)) (congrArg Prod.fst e9)).symm, rfl, by rw [e9]; exact ⟨h0, h1, h2, ⟨p, m, h3, hms⟩, h4, h5⟩, hag⟩
  · skip
    refine x_iload_n hC d_State_putWeight_7 rfl rfl ?_
    refine x_iconst hC d_State_putWeight_8 (v := nI 1) (by decide) ?_
    refine x_icmp_lt hC d_State_putWeight_9 (tgt := 18) (by decide) (fun c_9 => ?_) (fun c_9 => ?_)
    · skip
      refine x_iconst hC d_State_putWeight_18 (v := -1) (by decide) ?_
      refine hret _ _ _ _ _ _ _ d_State_putWeight_19 (by decide) (by decide) rfl ?_
      have e9 : aWt (w, (dn, ds), (k, nx, ms), (fk, fb, ftn, fts, fw), (rn, rs), c1, c2, c3, c4) c x = (-1, (w, (dn, ds), (k, nx, ms), (fk, fb, ftn, fts, fw), (rn, rs), c1, c2, c3, c4)) := if_neg (fun h9 => k2_nle c_9 h9.2.1)
      exact ⟨(congrArg (fun q => some (Value.int q)) (congrArg Prod.fst e9)).symm, rfl, by rw [e9]; exact ⟨h0, h1, h2, ⟨p, m, h3, hms⟩, h4, h5⟩, hag⟩
    · skip
      refine x_iload_n hC d_State_putWeight_12 rfl rfl ?_
      refine x_bipush hC d_State_putWeight_13 (v := nI 99) (by decide) ?_
      refine x_icmp_le hC d_State_putWeight_15 (tgt := 20) (by decide) (fun c_15 => ?_) (fun c_15 => ?_)
      · skip
        obtain ⟨hx0, hx1⟩ := i2n_ge (k2_le c_9) (by decide)
        have hx9 : x.toNatClampNeg ≤ 99 := i2n_le hx0 c_15 (by decide)
        have hxe := i2n_of hx0
        obtain ⟨g0, ⟨ga, g1, gk1⟩, ⟨gb, g2, gk2⟩, ⟨gc, g3, gk3⟩, ⟨gd, g4, gk4⟩, ⟨g5x, ge, g5, gk5⟩, ⟨g6x, gf, g6, gk6⟩, gbd, gjs⟩ := id h1
        refine x_aload_n hC d_State_putWeight_20 rfl rfl ?_
        refine x_getf hC kf_State_12 h0 rfl d_State_putWeight_21 ?_
        refine x_getf hC kf_State_74 g0 rfl d_State_putWeight_24 ?_
        refine x_iload_n hC d_State_putWeight_27 rfl rfl ?_
        refine x_bipush hC d_State_putWeight_28 (v := nI 97) (by decide) ?_
        refine x_isub hC d_State_putWeight_30 (v := (nI ((c) - 97))) (pk_sub (by omega)) ?_
        refine x_iald hC g1 (j := (c) - 97) ⟨rfl, by omega, by omega⟩ (x := nI (ga ((c) - 97))) rfl d_State_putWeight_31 ?_
        refine x_istore_n hC d_State_putWeight_32 rfl (Nat.le_of_ble_eq_true rfl) (L1 := [some (.ref s), some (.int (nI (c))), some (.int x), some (.int (nI (ga ((c) - 97))))]) rfl ?_
        refine x_aload_n hC d_State_putWeight_33 rfl rfl ?_
        refine x_getf hC kf_State_12 h0 rfl d_State_putWeight_34 ?_
        refine x_getf hC kf_State_74 g0 rfl d_State_putWeight_37 ?_
        refine x_iload_n hC d_State_putWeight_40 rfl rfl ?_
        refine x_bipush hC d_State_putWeight_41 (v := nI 97) (by decide) ?_
        refine x_isub hC d_State_putWeight_43 (v := (nI ((c) - 97))) (pk_sub (by omega)) ?_
        refine x_iload_n hC d_State_putWeight_44 rfl rfl ?_
        refine x_top (v := (nI (x.toNatClampNeg))) hxe ?_
        refine x_iast hC g1 (j := (c) - 97) ⟨rfl, by omega, by omega⟩ d_State_putWeight_45 (g1 := fun b9 => nI (updN ga ((c) - 97) (x.toNatClampNeg) b9)) (x_updN _ _ _) ?_
        generalize eq1 : updN ga ((c) - 97) (x.toNatClampNeg) = q1
        generalize e2 : xup F (s + 2) (.inr (0, 8, fun b9 => .int (nI (q1 b9)))) = F2
        have h0 : F2 (s) = some (.inl (7, [.ref (s + 1), .ref (s + 8), .ref (s + 10), .ref (s + 36), .ref (s + 47), .int (nI (c1)), .int (nI (c2)), .int (nI (c3)), .int (nI (c4))])) := by rw [← e2]; exact (xup_ne (by omega)).trans h0
        have h2 : xTx F2 (s + 8) (16) (dn) (ds) := xTx_fr h2 (fun a9 q1 q2 => by rw [← e2]; exact xup_ne (by omega))
        have h3 : xQp F2 (s + 10) (k) (nx) (p) (m) := xQp_fr h3 (fun a9 q1 q2 => by rw [← e2]; exact xup_ne (by omega))
        have h4 : xFr F2 (s + 36) (fk) (fb) (ftn) (fts) (fw) := xFr_fr h4 (fun a9 q1 q2 => by rw [← e2]; exact xup_ne (by omega))
        have h5 : xTx F2 (s + 47) (16) (rn) (rs) := xTx_fr h5 (fun a9 q1 q2 => by rw [← e2]; exact xup_ne (by omega))
        have g0 : F2 (s + 1) = some (.inl (1, [.ref (s + 2), .ref (s + 3), .ref (s + 4), .ref (s + 5), .ref (s + 6), .ref (s + 7), .int (nI (hSum w))])) := by rw [← e2]; exact (xup_ne (by omega)).trans g0
        have g1 : F2 (s + 2) = some (.inr (0, 8, fun b9 => .int (nI (q1 b9)))) := by rw [← e2]; exact xup_eq
        have g2 : F2 (s + 3) = some (.inr (0, 8, fun b9 => .int (nI (gb b9)))) := by rw [← e2]; exact (xup_ne (by omega)).trans g2
        have g3 : F2 (s + 4) = some (.inr (0, 8, fun b9 => .int (nI (gc b9)))) := by rw [← e2]; exact (xup_ne (by omega)).trans g3
        have g4 : F2 (s + 5) = some (.inr (0, 8, fun b9 => .int (nI (gd b9)))) := by rw [← e2]; exact (xup_ne (by omega)).trans g4
        have g5 : F2 (s + 6) = some (.inr (0, 8, fun b9 => .int (nI (ge b9)))) := by rw [← e2]; exact (xup_ne (by omega)).trans g5
        have g6 : F2 (s + 7) = some (.inr (0, 8, fun b9 => .int (nI (gf b9)))) := by rw [← e2]; exact (xup_ne (by omega)).trans g6
        have hag : ∀ a9 : Nat, (a9 < s ∨ s + 49 ≤ a9) → F2 a9 = F a9 := fun a9 q0 => by rw [← e2]; exact (xup_ne (by omega)).trans (hag a9 q0)
        have h1 : xCd F2 (s + 1) ((updN w (c - 97) x.toNatClampNeg)) ((hLen w)) ((hVal (hLen w))) ((hOrd (hLen w))) ((hSum w)) := ⟨g0, ⟨q1, g1, fun j hj => (Decidable.em (j = c - 97)).elim (fun q => by rw [← eq1, q, updN_eq, updN_eq]) (fun q => by rw [← eq1, updN_ne q, updN_ne q]; exact gk1 j hj)⟩, ⟨gb, g2, gk2⟩, ⟨gc, g3, gk3⟩, ⟨gd, g4, gk4⟩, ⟨g5x, ge, g5, gk5⟩, ⟨g6x, gf, g6, gk6⟩, fun j hj => ⟨(Decidable.em (j = c - 97)).elim (fun q => by rw [q, updN_eq]; exact hx9) (fun q => by rw [updN_ne q]; exact (gbd j hj).1), (gbd j hj).2⟩, gjs⟩
        refine x_aload_n hC d_State_putWeight_46 rfl rfl ?_
        refine x_getf hC kf_State_12 h0 rfl d_State_putWeight_47 ?_
        refine x_callV hC kv_State_78 (c_Code_derive (hc := h1)) h1.1 rfl rfl (by decide) rfl rfl rfl (Nat.le_of_ble_eq_true rfl) (by decide) d_State_putWeight_50 (fun r9 F9 z9 hp9 => ?_)
        obtain ⟨rfl, h9c, j0, hag9⟩ := hp9
        rw [h9c]
        clear h9c z9
        generalize F9 = F3 at *
        have h0 : F3 (s) = some (.inl (7, [.ref (s + 1), .ref (s + 8), .ref (s + 10), .ref (s + 36), .ref (s + 47), .int (nI (c1)), .int (nI (c2)), .int (nI (c3)), .int (nI (c4))])) := (hag9 _ (by omega)).trans h0
        have h2 : xTx F3 (s + 8) (16) (dn) (ds) := xTx_fr h2 (fun a9 q1 q2 => hag9 a9 (by omega))
        have h3 : xQp F3 (s + 10) (k) (nx) (p) (m) := xQp_fr h3 (fun a9 q1 q2 => hag9 a9 (by omega))
        have h4 : xFr F3 (s + 36) (fk) (fb) (ftn) (fts) (fw) := xFr_fr h4 (fun a9 q1 q2 => hag9 a9 (by omega))
        have h5 : xTx F3 (s + 47) (16) (rn) (rs) := xTx_fr h5 (fun a9 q1 q2 => hag9 a9 (by omega))
        have h1 : xCd F3 ((s + 1)) ((updN w (c - 97) x.toNatClampNeg)) ((hLen (updN w (c - 97) x.toNatClampNeg))) ((hVal (hLen (updN w (c - 97) x.toNatClampNeg)))) ((hOrd (hLen (updN w (c - 97) x.toNatClampNeg)))) ((hSum (updN w (c - 97) x.toNatClampNeg))) := j0
        have hag : ∀ a9 : Nat, (a9 < s ∨ s + 49 ≤ a9) → F3 a9 = F a9 := fun a9 q0 => (hag9 a9 (by omega)).trans (hag a9 q0)
        have hg_50 := hag9
        clear hag9
        refine x_iload_n hC d_State_putWeight_53 rfl rfl ?_
        refine hret _ _ _ _ _ _ _ d_State_putWeight_54 (by decide) (by decide) rfl ?_
        have e9 : aWt (w, (dn, ds), (k, nx, ms), (fk, fb, ftn, fts, fw), (rn, rs), c1, c2, c3, c4) c x = (nI (w (c - 97)), ((updN w (c - 97) x.toNatClampNeg), (dn, ds), (k, nx, ms), (fk, fb, ftn, fts, fw), (rn, rs), c1, c2, c3, c4)) := if_pos ⟨c_4, k2_le c_9, c_15⟩
        exact ⟨by rw [e9, gk1 _ (by omega)], rfl, by rw [e9]; exact ⟨h0, h1, h2, ⟨p, m, h3, hms⟩, h4, h5⟩, hag⟩
      · skip
        refine x_iconst hC d_State_putWeight_18 (v := -1) (by decide) ?_
        refine hret _ _ _ _ _ _ _ d_State_putWeight_19 (by decide) (by decide) rfl ?_
        have e9 : aWt (w, (dn, ds), (k, nx, ms), (fk, fb, ftn, fts, fw), (rn, rs), c1, c2, c3, c4) c x = (-1, (w, (dn, ds), (k, nx, ms), (fk, fb, ftn, fts, fw), (rn, rs), c1, c2, c3, c4)) := if_neg (fun h9 => absurd h9.2.2 c_15)
        exact ⟨(congrArg (fun q => some (Value.int q)) (congrArg Prod.fst e9)).symm, rfl, by rw [e9]; exact ⟨h0, h1, h2, ⟨p, m, h3, hms⟩, h4, h5⟩, hag⟩

theorem d_State_addToDraft_0 : decode prog_11_method_4_code 0 = .ok (.iload_n 1, 1) := by decide +kernel
theorem d_State_addToDraft_1 : decode prog_11_method_4_code 1 = .ok (.invokestatic 70, 3) := by decide +kernel
theorem d_State_addToDraft_4 : decode prog_11_method_4_code 4 = .ok (.ifCond .ne 5, 3) := by decide +kernel
theorem d_State_addToDraft_7 : decode prog_11_method_4_code 7 = .ok (.iconst (-1), 1) := by decide +kernel
theorem d_State_addToDraft_8 : decode prog_11_method_4_code 8 = .ok (.ireturn, 1) := by decide +kernel
theorem d_State_addToDraft_9 : decode prog_11_method_4_code 9 = .ok (.aload_n 0, 1) := by decide +kernel
theorem d_State_addToDraft_10 : decode prog_11_method_4_code 10 = .ok (.getfield 23, 3) := by decide +kernel
theorem d_State_addToDraft_13 : decode prog_11_method_4_code 13 = .ok (.iload_n 1, 1) := by decide +kernel
theorem d_State_addToDraft_14 : decode prog_11_method_4_code 14 = .ok (.invokevirtual 81, 3) := by decide +kernel
theorem d_State_addToDraft_17 : decode prog_11_method_4_code 17 = .ok (.ifCond .eq 13, 3) := by decide +kernel
theorem d_State_addToDraft_20 : decode prog_11_method_4_code 20 = .ok (.aload_n 0, 1) := by decide +kernel
theorem d_State_addToDraft_21 : decode prog_11_method_4_code 21 = .ok (.getfield 23, 3) := by decide +kernel
theorem d_State_addToDraft_24 : decode prog_11_method_4_code 24 = .ok (.getfield 84, 3) := by decide +kernel
theorem d_State_addToDraft_27 : decode prog_11_method_4_code 27 = .ok (.goto 5, 3) := by decide +kernel
theorem d_State_addToDraft_30 : decode prog_11_method_4_code 30 = .ok (.bipush (-2), 2) := by decide +kernel
theorem d_State_addToDraft_32 : decode prog_11_method_4_code 32 = .ok (.ireturn, 1) := by decide +kernel
set_option maxHeartbeats 4000000 in
set_option maxRecDepth 20000 in
theorem c_State_addToDraft {P : xP} {F : xF} {z : Nat} {s : Nat} {A : aS} {c : Nat} (hs : xSt F (s) (A)) (hc0 : c < 65536) : xM P xy_State_addToDraft [.ref s, .int (nI (c))] F (z) 0 0 (fun r9 F9 z9 => r9 = some (.int ((aDr A c).1)) ∧ z9 = z ∧ xSt F9 (s) ((aDr A c).2) ∧ (∀ a9 : Nat, (a9 < s ∨ s + 49 ≤ a9) → F9 a9 = F a9)) := by
  refine xM_i .int rfl (Nat.le_of_ble_eq_true rfl) (L0 := [some (.ref s), some (.int (nI (c)))]) rfl rfl fun Θ hC hret => ?_
  have hag : ∀ a9 : Nat, (a9 < s ∨ s + 49 ≤ a9) → F a9 = F a9 := fun a9 _ => rfl
  obtain ⟨w, ⟨dn, ds⟩, ⟨k, nx, ms⟩, ⟨fk, fb, ftn, fts, fw⟩, ⟨rn, rs⟩, c1, c2, c3, c4⟩ := A
  obtain ⟨h0, h1, h2, ⟨p, m, h3, hms⟩, h4, h5⟩ := id hs
  have hms : ∀ i, i < k → m i = ms i := hms
  have h0 : F (s) = some (.inl (7, [.ref (s + 1), .ref (s + 8), .ref (s + 10), .ref (s + 36), .ref (s + 47), .int (nI (c1)), .int (nI (c2)), .int (nI (c3)), .int (nI (c4))])) := h0
  have h1 : xCd F (s + 1) (w) ((hLen w)) ((hVal (hLen w))) ((hOrd (hLen w))) ((hSum w)) := h1
  have h2 : xTx F (s + 8) (16) (dn) (ds) := h2
  have h3 : xQp F (s + 10) (k) (nx) (p) (m) := h3
  have h4 : xFr F (s + 36) (fk) (fb) (ftn) (fts) (fw) := h4
  have h5 : xTx F (s + 47) (16) (rn) (rs) := h5
  have hk8 : k ≤ 8 := h3.2.1.1
  refine x_iload_n hC d_State_addToDraft_0 rfl rfl ?_
  refine x_callS hC ks_State_70 (c_MessageCoder_isSymbol (hcb := by omega)) (by decide) rfl rfl rfl (Nat.le_of_ble_eq_true rfl) (by decide) d_State_addToDraft_1 (fun r9 F9 z9 hp9 => ?_)
  obtain ⟨rfl, h9b, h9c⟩ := hp9
  rw [h9b, h9c]
  clear h9b h9c F9 z9
  refine x_ifB_ne hC d_State_addToDraft_4 (tgt := 9) (by decide) (fun c_4 => ?_) (fun c_4 => ?_)
  · skip
    refine x_aload_n hC d_State_addToDraft_9 rfl rfl ?_
    refine x_getf hC kf_State_23 h0 rfl d_State_addToDraft_10 ?_
    refine x_iload_n hC d_State_addToDraft_13 rfl rfl ?_
    refine x_callV hC kv_State_81 (c_Text_add (ht := h2) (hc0 := by omega)) h2.1 rfl rfl (by decide) rfl rfl rfl (Nat.le_of_ble_eq_true rfl) (by decide) d_State_addToDraft_14 (fun r9 F9 z9 hp9 => ?_)
    obtain ⟨n1_14, s1_14, rfl, h9c, j0, pk_14, hag9⟩ := hp9
    rw [h9c]
    clear h9c z9
    generalize F9 = F1 at *
    have h0 : F1 (s) = some (.inl (7, [.ref (s + 1), .ref (s + 8), .ref (s + 10), .ref (s + 36), .ref (s + 47), .int (nI (c1)), .int (nI (c2)), .int (nI (c3)), .int (nI (c4))])) := (hag9 _ (by omega)).trans h0
    have h1 : xCd F1 (s + 1) (w) ((hLen w)) ((hVal (hLen w))) ((hOrd (hLen w))) ((hSum w)) := xCd_fr h1 (fun a9 q1 q2 => hag9 a9 (by omega))
    have h3 : xQp F1 (s + 10) (k) (nx) (p) (m) := xQp_fr h3 (fun a9 q1 q2 => hag9 a9 (by omega))
    have h4 : xFr F1 (s + 36) (fk) (fb) (ftn) (fts) (fw) := xFr_fr h4 (fun a9 q1 q2 => hag9 a9 (by omega))
    have h5 : xTx F1 (s + 47) (16) (rn) (rs) := xTx_fr h5 (fun a9 q1 q2 => hag9 a9 (by omega))
    have h2 : xTx F1 ((s + 8)) (16) (n1_14) (s1_14) := j0
    have hag : ∀ a9 : Nat, (a9 < s ∨ s + 49 ≤ a9) → F1 a9 = F a9 := fun a9 q0 => (hag9 a9 (by omega)).trans (hag a9 q0)
    have hg_14 := hag9
    clear hag9
    refine x_ifB_eq hC d_State_addToDraft_17 (tgt := 30) (by decide) (fun c_17 => ?_) (fun c_17 => ?_)
    · skip
      refine x_bipush hC d_State_addToDraft_30 (v := -2) (by decide) ?_
      refine hret _ _ _ _ _ _ _ d_State_addToDraft_32 (by decide) (by decide) rfl ?_
      obtain ⟨ea9, eb9⟩ := pk_14.2 c_17
      rw [ea9, eb9] at h2
      have e9 : aDr (w, (dn, ds), (k, nx, ms), (fk, fb, ftn, fts, fw), (rn, rs), c1, c2, c3, c4) c = (-2, (w, (dn, ds), (k, nx, ms), (fk, fb, ftn, fts, fw), (rn, rs), c1, c2, c3, c4)) := (if_pos c_4).trans (if_neg c_17)
      exact ⟨(congrArg (fun q => some (Value.int q)) (congrArg Prod.fst e9)).symm, rfl, by rw [e9]; exact ⟨h0, h1, h2, ⟨p, m, h3, hms⟩, h4, h5⟩, hag⟩
    · skip
      refine x_aload_n hC d_State_addToDraft_20 rfl rfl ?_
      refine x_getf hC kf_State_23 h0 rfl d_State_addToDraft_21 ?_
      refine x_getf hC kf_State_84 h2.1 rfl d_State_addToDraft_24 ?_
      refine x_goto hC d_State_addToDraft_27 (tgt := 32) (by decide) ?_
      refine hret _ _ _ _ _ _ _ d_State_addToDraft_32 (by decide) (by decide) rfl ?_
      obtain ⟨ea9, eb9⟩ := pk_14.1 c_17
      rw [ea9, eb9] at h2
      have e9 : aDr (w, (dn, ds), (k, nx, ms), (fk, fb, ftn, fts, fw), (rn, rs), c1, c2, c3, c4) c = (nI (dn + 1), (w, (dn + 1, updN ds dn c), (k, nx, ms), (fk, fb, ftn, fts, fw), (rn, rs), c1, c2, c3, c4)) := (if_pos c_4).trans (if_pos c_17)
      exact ⟨by rw [e9, ea9], rfl, by rw [e9]; exact ⟨h0, h1, h2, ⟨p, m, h3, hms⟩, h4, h5⟩, hag⟩
  · skip
    refine x_iconst hC d_State_addToDraft_7 (v := -1) (by decide) ?_
    refine hret _ _ _ _ _ _ _ d_State_addToDraft_8 (by decide) (by decide) rfl ?_
    have e9 : aDr (w, (dn, ds), (k, nx, ms), (fk, fb, ftn, fts, fw), (rn, rs), c1, c2, c3, c4) c = (-1, (w, (dn, ds), (k, nx, ms), (fk, fb, ftn, fts, fw), (rn, rs), c1, c2, c3, c4)) := if_neg c_4
    exact ⟨(congrArg (fun q => some (Value.int q)) (congrArg Prod.fst e9)).symm, rfl, by rw [e9]; exact ⟨h0, h1, h2, ⟨p, m, h3, hms⟩, h4, h5⟩, hag⟩

theorem d_State_emptyDraft_0 : decode prog_11_method_5_code 0 = .ok (.aload_n 0, 1) := by decide +kernel
theorem d_State_emptyDraft_1 : decode prog_11_method_5_code 1 = .ok (.getfield 23, 3) := by decide +kernel
theorem d_State_emptyDraft_4 : decode prog_11_method_5_code 4 = .ok (.getfield 84, 3) := by decide +kernel
theorem d_State_emptyDraft_7 : decode prog_11_method_5_code 7 = .ok (.istore_n 1, 1) := by decide +kernel
theorem d_State_emptyDraft_8 : decode prog_11_method_5_code 8 = .ok (.aload_n 0, 1) := by decide +kernel
theorem d_State_emptyDraft_9 : decode prog_11_method_5_code 9 = .ok (.getfield 23, 3) := by decide +kernel
theorem d_State_emptyDraft_12 : decode prog_11_method_5_code 12 = .ok (.invokevirtual 87, 3) := by decide +kernel
theorem d_State_emptyDraft_15 : decode prog_11_method_5_code 15 = .ok (.iload_n 1, 1) := by decide +kernel
theorem d_State_emptyDraft_16 : decode prog_11_method_5_code 16 = .ok (.ireturn, 1) := by decide +kernel
set_option maxHeartbeats 4000000 in
set_option maxRecDepth 20000 in
theorem c_State_emptyDraft {P : xP} {F : xF} {z : Nat} {s : Nat} {A : aS} (hs : xSt F (s) (A))  : xM P xy_State_emptyDraft [.ref s] F (z) 0 0 (fun r9 F9 z9 => r9 = some (.int ((aCl A).1)) ∧ z9 = z ∧ xSt F9 (s) ((aCl A).2) ∧ (∀ a9 : Nat, (a9 < s ∨ s + 49 ≤ a9) → F9 a9 = F a9)) := by
  refine xM_i .int rfl (Nat.le_of_ble_eq_true rfl) (L0 := [some (.ref s), none]) rfl rfl fun Θ hC hret => ?_
  have hag : ∀ a9 : Nat, (a9 < s ∨ s + 49 ≤ a9) → F a9 = F a9 := fun a9 _ => rfl
  obtain ⟨w, ⟨dn, ds⟩, ⟨k, nx, ms⟩, ⟨fk, fb, ftn, fts, fw⟩, ⟨rn, rs⟩, c1, c2, c3, c4⟩ := A
  obtain ⟨h0, h1, h2, ⟨p, m, h3, hms⟩, h4, h5⟩ := id hs
  have hms : ∀ i, i < k → m i = ms i := hms
  have h0 : F (s) = some (.inl (7, [.ref (s + 1), .ref (s + 8), .ref (s + 10), .ref (s + 36), .ref (s + 47), .int (nI (c1)), .int (nI (c2)), .int (nI (c3)), .int (nI (c4))])) := h0
  have h1 : xCd F (s + 1) (w) ((hLen w)) ((hVal (hLen w))) ((hOrd (hLen w))) ((hSum w)) := h1
  have h2 : xTx F (s + 8) (16) (dn) (ds) := h2
  have h3 : xQp F (s + 10) (k) (nx) (p) (m) := h3
  have h4 : xFr F (s + 36) (fk) (fb) (ftn) (fts) (fw) := h4
  have h5 : xTx F (s + 47) (16) (rn) (rs) := h5
  have hk8 : k ≤ 8 := h3.2.1.1
  refine x_aload_n hC d_State_emptyDraft_0 rfl rfl ?_
  refine x_getf hC kf_State_23 h0 rfl d_State_emptyDraft_1 ?_
  refine x_getf hC kf_State_84 h2.1 rfl d_State_emptyDraft_4 ?_
  refine x_istore_n hC d_State_emptyDraft_7 rfl (Nat.le_of_ble_eq_true rfl) (L1 := [some (.ref s), some (.int (nI (dn)))]) rfl ?_
  refine x_aload_n hC d_State_emptyDraft_8 rfl rfl ?_
  refine x_getf hC kf_State_23 h0 rfl d_State_emptyDraft_9 ?_
  refine x_callV hC kv_State_87 (c_Text_clear (ht := h2)) h2.1 rfl rfl (by decide) rfl rfl rfl (Nat.le_of_ble_eq_true rfl) (by decide) d_State_emptyDraft_12 (fun r9 F9 z9 hp9 => ?_)
  obtain ⟨rfl, h9c, j0, hag9⟩ := hp9
  rw [h9c]
  clear h9c z9
  generalize F9 = F1 at *
  have h0 : F1 (s) = some (.inl (7, [.ref (s + 1), .ref (s + 8), .ref (s + 10), .ref (s + 36), .ref (s + 47), .int (nI (c1)), .int (nI (c2)), .int (nI (c3)), .int (nI (c4))])) := (hag9 _ (by omega)).trans h0
  have h1 : xCd F1 (s + 1) (w) ((hLen w)) ((hVal (hLen w))) ((hOrd (hLen w))) ((hSum w)) := xCd_fr h1 (fun a9 q1 q2 => hag9 a9 (by omega))
  have h3 : xQp F1 (s + 10) (k) (nx) (p) (m) := xQp_fr h3 (fun a9 q1 q2 => hag9 a9 (by omega))
  have h4 : xFr F1 (s + 36) (fk) (fb) (ftn) (fts) (fw) := xFr_fr h4 (fun a9 q1 q2 => hag9 a9 (by omega))
  have h5 : xTx F1 (s + 47) (16) (rn) (rs) := xTx_fr h5 (fun a9 q1 q2 => hag9 a9 (by omega))
  have h2 : xTx F1 ((s + 8)) (16) (0) (ds) := j0
  have hag : ∀ a9 : Nat, (a9 < s ∨ s + 49 ≤ a9) → F1 a9 = F a9 := fun a9 q0 => (hag9 a9 (by omega)).trans (hag a9 q0)
  have hg_12 := hag9
  clear hag9
  refine x_iload_n hC d_State_emptyDraft_15 rfl rfl ?_
  refine hret _ _ _ _ _ _ _ d_State_emptyDraft_16 (by decide) (by decide) rfl ?_
  have e9 : aCl (w, (dn, ds), (k, nx, ms), (fk, fb, ftn, fts, fw), (rn, rs), c1, c2, c3, c4) = (nI dn, (w, (0, ds), (k, nx, ms), (fk, fb, ftn, fts, fw), (rn, rs), c1, c2, c3, c4)) := rfl
  exact ⟨(congrArg (fun q => some (Value.int q)) (congrArg Prod.fst e9)).symm, rfl, by rw [e9]; exact ⟨h0, h1, h2, ⟨p, m, h3, hms⟩, h4, h5⟩, hag⟩

theorem d_State_enqueue_0 : decode prog_11_method_6_code 0 = .ok (.iload_n 1, 1) := by decide +kernel
theorem d_State_enqueue_1 : decode prog_11_method_6_code 1 = .ok (.invokestatic 90, 3) := by decide +kernel
theorem d_State_enqueue_4 : decode prog_11_method_6_code 4 = .ok (.ifCond .ne 5, 3) := by decide +kernel
theorem d_State_enqueue_7 : decode prog_11_method_6_code 7 = .ok (.iconst (-1), 1) := by decide +kernel
theorem d_State_enqueue_8 : decode prog_11_method_6_code 8 = .ok (.ireturn, 1) := by decide +kernel
theorem d_State_enqueue_9 : decode prog_11_method_6_code 9 = .ok (.aload_n 0, 1) := by decide +kernel
theorem d_State_enqueue_10 : decode prog_11_method_6_code 10 = .ok (.getfield 23, 3) := by decide +kernel
theorem d_State_enqueue_13 : decode prog_11_method_6_code 13 = .ok (.getfield 84, 3) := by decide +kernel
theorem d_State_enqueue_16 : decode prog_11_method_6_code 16 = .ok (.ifCond .eq 13, 3) := by decide +kernel
theorem d_State_enqueue_19 : decode prog_11_method_6_code 19 = .ok (.aload_n 0, 1) := by decide +kernel
theorem d_State_enqueue_20 : decode prog_11_method_6_code 20 = .ok (.getfield 30, 3) := by decide +kernel
theorem d_State_enqueue_23 : decode prog_11_method_6_code 23 = .ok (.invokevirtual 94, 3) := by decide +kernel
theorem d_State_enqueue_26 : decode prog_11_method_6_code 26 = .ok (.ifCond .eq 6, 3) := by decide +kernel
theorem d_State_enqueue_29 : decode prog_11_method_6_code 29 = .ok (.bipush (-2), 2) := by decide +kernel
theorem d_State_enqueue_31 : decode prog_11_method_6_code 31 = .ok (.ireturn, 1) := by decide +kernel
theorem d_State_enqueue_32 : decode prog_11_method_6_code 32 = .ok (.aload_n 0, 1) := by decide +kernel
theorem d_State_enqueue_33 : decode prog_11_method_6_code 33 = .ok (.getfield 30, 3) := by decide +kernel
theorem d_State_enqueue_36 : decode prog_11_method_6_code 36 = .ok (.aload_n 0, 1) := by decide +kernel
theorem d_State_enqueue_37 : decode prog_11_method_6_code 37 = .ok (.getfield 23, 3) := by decide +kernel
theorem d_State_enqueue_40 : decode prog_11_method_6_code 40 = .ok (.iload_n 1, 1) := by decide +kernel
theorem d_State_enqueue_41 : decode prog_11_method_6_code 41 = .ok (.invokevirtual 98, 3) := by decide +kernel
theorem d_State_enqueue_44 : decode prog_11_method_6_code 44 = .ok (.istore_n 2, 1) := by decide +kernel
theorem d_State_enqueue_45 : decode prog_11_method_6_code 45 = .ok (.aload_n 0, 1) := by decide +kernel
theorem d_State_enqueue_46 : decode prog_11_method_6_code 46 = .ok (.getfield 23, 3) := by decide +kernel
theorem d_State_enqueue_49 : decode prog_11_method_6_code 49 = .ok (.invokevirtual 87, 3) := by decide +kernel
theorem d_State_enqueue_52 : decode prog_11_method_6_code 52 = .ok (.iload_n 2, 1) := by decide +kernel
theorem d_State_enqueue_53 : decode prog_11_method_6_code 53 = .ok (.ireturn, 1) := by decide +kernel
set_option maxHeartbeats 4000000 in
set_option maxRecDepth 20000 in
theorem c_State_enqueue {P : xP} {F : xF} {z : Nat} {s : Nat} {A : aS} {x : Int32} (hs : xSt F (s) (A)) (hnx : A.2.2.1.2.1 < 999) : xM P xy_State_enqueue [.ref s, .int x] F (z) 0 0 (fun r9 F9 z9 => r9 = some (.int ((aPo A x).1)) ∧ z9 = z ∧ xSt F9 (s) ((aPo A x).2) ∧ (∀ a9 : Nat, (a9 < s ∨ s + 49 ≤ a9) → F9 a9 = F a9)) := by
  refine xM_i .int rfl (Nat.le_of_ble_eq_true rfl) (L0 := [some (.ref s), some (.int x), none]) rfl rfl fun Θ hC hret => ?_
  have hag : ∀ a9 : Nat, (a9 < s ∨ s + 49 ≤ a9) → F a9 = F a9 := fun a9 _ => rfl
  obtain ⟨w, ⟨dn, ds⟩, ⟨k, nx, ms⟩, ⟨fk, fb, ftn, fts, fw⟩, ⟨rn, rs⟩, c1, c2, c3, c4⟩ := A
  obtain ⟨h0, h1, h2, ⟨p, m, h3, hms⟩, h4, h5⟩ := id hs
  have hms : ∀ i, i < k → m i = ms i := hms
  have h0 : F (s) = some (.inl (7, [.ref (s + 1), .ref (s + 8), .ref (s + 10), .ref (s + 36), .ref (s + 47), .int (nI (c1)), .int (nI (c2)), .int (nI (c3)), .int (nI (c4))])) := h0
  have h1 : xCd F (s + 1) (w) ((hLen w)) ((hVal (hLen w))) ((hOrd (hLen w))) ((hSum w)) := h1
  have h2 : xTx F (s + 8) (16) (dn) (ds) := h2
  have h3 : xQp F (s + 10) (k) (nx) (p) (m) := h3
  have h4 : xFr F (s + 36) (fk) (fb) (ftn) (fts) (fw) := h4
  have h5 : xTx F (s + 47) (16) (rn) (rs) := h5
  have hk8 : k ≤ 8 := h3.2.1.1
  have hnx : nx < 999 := hnx
  have hdn9 : dn ≤ 16 := h2.2.1.1
  refine x_iload_n hC d_State_enqueue_0 rfl rfl ?_
  refine x_callS hC ks_State_90 (c_MessageCoder_isPriority ) (by decide) rfl rfl rfl (Nat.le_of_ble_eq_true rfl) (by decide) d_State_enqueue_1 (fun r9 F9 z9 hp9 => ?_)
  obtain ⟨rfl, h9b, h9c⟩ := hp9
  rw [h9b, h9c]
  clear h9b h9c F9 z9
  refine x_ifB_ne hC d_State_enqueue_4 (tgt := 9) (by decide) (fun c_4 => ?_) (fun c_4 => ?_)
  · skip
    refine x_aload_n hC d_State_enqueue_9 rfl rfl ?_
    refine x_getf hC kf_State_23 h0 rfl d_State_enqueue_10 ?_
    refine x_getf hC kf_State_84 h2.1 rfl d_State_enqueue_13 ?_
    refine x_ifN_eq hC d_State_enqueue_16 (tgt := 29) (by decide) (by omega) (fun c_16 => ?_) (fun c_16 => ?_)
    · skip
      refine x_bipush hC d_State_enqueue_29 (v := -2) (by decide) ?_
      refine hret _ _ _ _ _ _ _ d_State_enqueue_31 (by decide) (by decide) rfl ?_
      have e9 : aPo (w, (dn, ds), (k, nx, ms), (fk, fb, ftn, fts, fw), (rn, rs), c1, c2, c3, c4) x = (-2, (w, (dn, ds), (k, nx, ms), (fk, fb, ftn, fts, fw), (rn, rs), c1, c2, c3, c4)) := (if_pos c_4).trans (if_pos (Or.inl c_16))
      exact ⟨(congrArg (fun q => some (Value.int q)) (congrArg Prod.fst e9)).symm, rfl, by rw [e9]; exact ⟨h0, h1, h2, ⟨p, m, h3, hms⟩, h4, h5⟩, hag⟩
    · skip
      refine x_aload_n hC d_State_enqueue_19 rfl rfl ?_
      refine x_getf hC kf_State_30 h0 rfl d_State_enqueue_20 ?_
      refine x_callV hC kv_State_94 (c_Queue_isFull (hq := h3)) h3.1 rfl rfl (by decide) rfl rfl rfl (Nat.le_of_ble_eq_true rfl) (by decide) d_State_enqueue_23 (fun r9 F9 z9 hp9 => ?_)
      obtain ⟨rfl, h9b, h9c⟩ := hp9
      rw [h9b, h9c]
      clear h9b h9c F9 z9
      refine x_ifB_eq hC d_State_enqueue_26 (tgt := 32) (by decide) (fun c_26 => ?_) (fun c_26 => ?_)
      · skip
        obtain ⟨hx0, hx1⟩ := i2n_ge (n := 1) c_4.1 (by decide)
        have hx9 : x.toNatClampNeg ≤ 5 := i2n_le hx0 c_4.2 (by decide)
        have hxe := i2n_of hx0
        refine x_aload_n hC d_State_enqueue_32 rfl rfl ?_
        refine x_getf hC kf_State_30 h0 rfl d_State_enqueue_33 ?_
        refine x_aload_n hC d_State_enqueue_36 rfl rfl ?_
        refine x_getf hC kf_State_23 h0 rfl d_State_enqueue_37 ?_
        refine x_iload_n hC d_State_enqueue_40 rfl rfl ?_
        refine x_top (v := (nI (x.toNatClampNeg))) hxe ?_
        refine x_callV hC kv_State_98 (c_Queue_add (hq := h3) (ht := h2) (hk7 := by omega) (hnx := hnx) (hpr := by omega) (hd := by omega)) h3.1 rfl rfl (by decide) rfl rfl rfl (Nat.le_of_ble_eq_true rfl) (by decide) d_State_enqueue_41 (fun r9 F9 z9 hp9 => ?_)
        obtain ⟨rfl, h9c, j0, j1, hag9⟩ := hp9
        rw [h9c]
        clear h9c z9
        generalize F9 = F1 at *
        have h0 : F1 (s) = some (.inl (7, [.ref (s + 1), .ref (s + 8), .ref (s + 10), .ref (s + 36), .ref (s + 47), .int (nI (c1)), .int (nI (c2)), .int (nI (c3)), .int (nI (c4))])) := (hag9 _ (by omega)).trans h0
        have h1 : xCd F1 (s + 1) (w) ((hLen w)) ((hVal (hLen w))) ((hOrd (hLen w))) ((hSum w)) := xCd_fr h1 (fun a9 q1 q2 => hag9 a9 (by omega))
        have h4 : xFr F1 (s + 36) (fk) (fb) (ftn) (fts) (fw) := xFr_fr h4 (fun a9 q1 q2 => hag9 a9 (by omega))
        have h5 : xTx F1 (s + 47) (16) (rn) (rs) := xTx_fr h5 (fun a9 q1 q2 => hag9 a9 (by omega))
        have h3 : xQp F1 ((s + 10)) (k + 1) (nx + 1) (p) ((updA m k (nx, (x.toNatClampNeg), dn, ds))) := j0
        have h2 : xTx F1 ((s + 8)) (16) (dn) (ds) := j1
        have hag : ∀ a9 : Nat, (a9 < s ∨ s + 49 ≤ a9) → F1 a9 = F a9 := fun a9 q0 => (hag9 a9 (by omega)).trans (hag a9 q0)
        have hg_41 := hag9
        clear hag9
        refine x_istore_n hC d_State_enqueue_44 rfl (Nat.le_of_ble_eq_true rfl) (L1 := [some (.ref s), some (.int x), some (.int (nI (nx)))]) rfl ?_
        refine x_aload_n hC d_State_enqueue_45 rfl rfl ?_
        refine x_getf hC kf_State_23 h0 rfl d_State_enqueue_46 ?_
        refine x_callV hC kv_State_87 (c_Text_clear (ht := h2)) h2.1 rfl rfl (by decide) rfl rfl rfl (Nat.le_of_ble_eq_true rfl) (by decide) d_State_enqueue_49 (fun r9 F9 z9 hp9 => ?_)
        obtain ⟨rfl, h9c, j0, hag9⟩ := hp9
        rw [h9c]
        clear h9c z9
        generalize F9 = F2 at *
        have h0 : F2 (s) = some (.inl (7, [.ref (s + 1), .ref (s + 8), .ref (s + 10), .ref (s + 36), .ref (s + 47), .int (nI (c1)), .int (nI (c2)), .int (nI (c3)), .int (nI (c4))])) := (hag9 _ (by omega)).trans h0
        have h1 : xCd F2 (s + 1) (w) ((hLen w)) ((hVal (hLen w))) ((hOrd (hLen w))) ((hSum w)) := xCd_fr h1 (fun a9 q1 q2 => hag9 a9 (by omega))
        have h4 : xFr F2 (s + 36) (fk) (fb) (ftn) (fts) (fw) := xFr_fr h4 (fun a9 q1 q2 => hag9 a9 (by omega))
        have h5 : xTx F2 (s + 47) (16) (rn) (rs) := xTx_fr h5 (fun a9 q1 q2 => hag9 a9 (by omega))
        have h3 : xQp F2 ((s + 10)) (k + 1) (nx + 1) (p) ((updA m k (nx, (x.toNatClampNeg), dn, ds))) := xQp_fr h3 (fun a9 q1 q2 => hag9 a9 (by omega))
        have h2 : xTx F2 ((s + 8)) (16) (0) (ds) := j0
        have hag : ∀ a9 : Nat, (a9 < s ∨ s + 49 ≤ a9) → F2 a9 = F a9 := fun a9 q0 => (hag9 a9 (by omega)).trans (hag a9 q0)
        have hg_49 := hag9
        clear hag9
        refine x_iload_n hC d_State_enqueue_52 rfl rfl ?_
        refine hret _ _ _ _ _ _ _ d_State_enqueue_53 (by decide) (by decide) rfl ?_
        have e9 : aPo (w, (dn, ds), (k, nx, ms), (fk, fb, ftn, fts, fw), (rn, rs), c1, c2, c3, c4) x = (nI nx, (w, (0, ds), (k + 1, nx + 1, updA ms k (nx, x.toNatClampNeg, dn, ds)), (fk, fb, ftn, fts, fw), (rn, rs), c1, c2, c3, c4)) := (if_pos c_4).trans (if_neg (fun h9 => h9.elim (fun (q : dn = 0) => absurd c_16 (by omega)) (fun q => c_26 q)))
        exact ⟨(congrArg (fun q => some (Value.int q)) (congrArg Prod.fst e9)).symm, rfl, by rw [e9]; exact ⟨h0, h1, h2, ⟨p, _, h3, fun i hi => (Decidable.em (i = k)).elim (fun q => by rw [q, updA_eq]; exact updA_eq.symm) (fun q => by rw [updA_ne q]; exact (hms i (Nat.lt_of_le_of_ne (Nat.le_of_lt_succ hi) q)).trans (updA_ne q).symm)⟩, h4, h5⟩, hag⟩
      · skip
        refine x_bipush hC d_State_enqueue_29 (v := -2) (by decide) ?_
        refine hret _ _ _ _ _ _ _ d_State_enqueue_31 (by decide) (by decide) rfl ?_
        have e9 : aPo (w, (dn, ds), (k, nx, ms), (fk, fb, ftn, fts, fw), (rn, rs), c1, c2, c3, c4) x = (-2, (w, (dn, ds), (k, nx, ms), (fk, fb, ftn, fts, fw), (rn, rs), c1, c2, c3, c4)) := (if_pos c_4).trans (if_pos (Or.inr c_26))
        exact ⟨(congrArg (fun q => some (Value.int q)) (congrArg Prod.fst e9)).symm, rfl, by rw [e9]; exact ⟨h0, h1, h2, ⟨p, m, h3, hms⟩, h4, h5⟩, hag⟩
  · skip
    refine x_iconst hC d_State_enqueue_7 (v := -1) (by decide) ?_
    refine hret _ _ _ _ _ _ _ d_State_enqueue_8 (by decide) (by decide) rfl ?_
    have e9 : aPo (w, (dn, ds), (k, nx, ms), (fk, fb, ftn, fts, fw), (rn, rs), c1, c2, c3, c4) x = (-1, (w, (dn, ds), (k, nx, ms), (fk, fb, ftn, fts, fw), (rn, rs), c1, c2, c3, c4)) := if_neg c_4
    exact ⟨(congrArg (fun q => some (Value.int q)) (congrArg Prod.fst e9)).symm, rfl, by rw [e9]; exact ⟨h0, h1, h2, ⟨p, m, h3, hms⟩, h4, h5⟩, hag⟩

theorem d_State_discard_0 : decode prog_11_method_7_code 0 = .ok (.aload_n 0, 1) := by decide +kernel
theorem d_State_discard_1 : decode prog_11_method_7_code 1 = .ok (.getfield 30, 3) := by decide +kernel
theorem d_State_discard_4 : decode prog_11_method_7_code 4 = .ok (.iload_n 1, 1) := by decide +kernel
theorem d_State_discard_5 : decode prog_11_method_7_code 5 = .ok (.invokevirtual 101, 3) := by decide +kernel
theorem d_State_discard_8 : decode prog_11_method_7_code 8 = .ok (.astore_n 2, 1) := by decide +kernel
theorem d_State_discard_9 : decode prog_11_method_7_code 9 = .ok (.aload_n 2, 1) := by decide +kernel
theorem d_State_discard_10 : decode prog_11_method_7_code 10 = .ok (.ifnonnull 6, 3) := by decide +kernel
theorem d_State_discard_13 : decode prog_11_method_7_code 13 = .ok (.bipush (-3), 2) := by decide +kernel
theorem d_State_discard_15 : decode prog_11_method_7_code 15 = .ok (.ireturn, 1) := by decide +kernel
theorem d_State_discard_16 : decode prog_11_method_7_code 16 = .ok (.aload_n 0, 1) := by decide +kernel
theorem d_State_discard_17 : decode prog_11_method_7_code 17 = .ok (.getfield 30, 3) := by decide +kernel
theorem d_State_discard_20 : decode prog_11_method_7_code 20 = .ok (.aload_n 2, 1) := by decide +kernel
theorem d_State_discard_21 : decode prog_11_method_7_code 21 = .ok (.invokevirtual 105, 3) := by decide +kernel
theorem d_State_discard_24 : decode prog_11_method_7_code 24 = .ok (.aload_n 0, 1) := by decide +kernel
theorem d_State_discard_25 : decode prog_11_method_7_code 25 = .ok (.getfield 30, 3) := by decide +kernel
theorem d_State_discard_28 : decode prog_11_method_7_code 28 = .ok (.getfield 109, 3) := by decide +kernel
theorem d_State_discard_31 : decode prog_11_method_7_code 31 = .ok (.ireturn, 1) := by decide +kernel
set_option maxHeartbeats 4000000 in
set_option maxRecDepth 20000 in
theorem c_State_discard {P : xP} {F : xF} {z : Nat} {s : Nat} {A : aS} {idv : Int32} (hs : xSt F (s) (A))  : xM P xy_State_discard [.ref s, .int idv] F (z) 0 0 (fun r9 F9 z9 => r9 = some (.int ((aDi A idv).1)) ∧ z9 = z ∧ xSt F9 (s) ((aDi A idv).2) ∧ (∀ a9 : Nat, (a9 < s ∨ s + 49 ≤ a9) → F9 a9 = F a9)) := by
  refine xM_i .int rfl (Nat.le_of_ble_eq_true rfl) (L0 := [some (.ref s), some (.int idv), none]) rfl rfl fun Θ hC hret => ?_
  have hag : ∀ a9 : Nat, (a9 < s ∨ s + 49 ≤ a9) → F a9 = F a9 := fun a9 _ => rfl
  obtain ⟨w, ⟨dn, ds⟩, ⟨k, nx, ms⟩, ⟨fk, fb, ftn, fts, fw⟩, ⟨rn, rs⟩, c1, c2, c3, c4⟩ := A
  obtain ⟨h0, h1, h2, ⟨p, m, h3, hms⟩, h4, h5⟩ := id hs
  have hms : ∀ i, i < k → m i = ms i := hms
  have h0 : F (s) = some (.inl (7, [.ref (s + 1), .ref (s + 8), .ref (s + 10), .ref (s + 36), .ref (s + 47), .int (nI (c1)), .int (nI (c2)), .int (nI (c3)), .int (nI (c4))])) := h0
  have h1 : xCd F (s + 1) (w) ((hLen w)) ((hVal (hLen w))) ((hOrd (hLen w))) ((hSum w)) := h1
  have h2 : xTx F (s + 8) (16) (dn) (ds) := h2
  have h3 : xQp F (s + 10) (k) (nx) (p) (m) := h3
  have h4 : xFr F (s + 36) (fk) (fb) (ftn) (fts) (fw) := h4
  have h5 : xTx F (s + 47) (16) (rn) (rs) := h5
  have hk8 : k ≤ 8 := h3.2.1.1
  refine x_aload_n hC d_State_discard_0 rfl rfl ?_
  refine x_getf hC kf_State_30 h0 rfl d_State_discard_1 ?_
  refine x_iload_n hC d_State_discard_4 rfl rfl ?_
  refine x_callV hC kv_State_101 (c_Queue_byId (hq := h3)) h3.1 rfl rfl (by decide) rfl rfl rfl (Nat.le_of_ble_eq_true rfl) (by decide) d_State_discard_5 (fun r9 F9 z9 hp9 => ?_)
  obtain ⟨rfl, h9b, h9c⟩ := hp9
  rw [h9b, h9c]
  clear h9b h9c F9 z9
  by_cases hO_5 : idAt m idv k < k
  · skip
    rw [if_pos hO_5]
    rw [idAt_ext hms] at hO_5 ⊢
    obtain ⟨r, hr⟩ : ∃ q9, q9 = idAt ms idv k := ⟨_, rfl⟩
    rw [← hr] at hO_5 ⊢
    have hpr : p r < 8 := h3.2.2.2.1 r (by omega)
    have hmr9 := hms r hO_5
    refine x_astore_n hC d_State_discard_8 rfl (Nat.le_of_ble_eq_true rfl) (L1 := [some (.ref s), some (.int idv), some (.ref (s + 12 + 3 * p r))]) rfl ?_
    refine x_aload_n hC d_State_discard_9 rfl rfl ?_
    refine x_ifnonnull hC d_State_discard_10 (tgt := 16) (by decide) ?_
    refine x_aload_n hC d_State_discard_16 rfl rfl ?_
    refine x_getf hC kf_State_30 h0 rfl d_State_discard_17 ?_
    refine x_aload_n hC d_State_discard_20 rfl rfl ?_
    refine x_callV hC kv_State_105 (c_Queue_remove (hq := h3) (hr := by omega) (r := r)) h3.1 rfl rfl (by decide) rfl rfl rfl (Nat.le_of_ble_eq_true rfl) (by decide) d_State_discard_21 (fun r9 F9 z9 hp9 => ?_)
    obtain ⟨rfl, h9c, j0, hag9⟩ := hp9
    rw [h9c]
    clear h9c z9
    generalize F9 = F1 at *
    have h0 : F1 (s) = some (.inl (7, [.ref (s + 1), .ref (s + 8), .ref (s + 10), .ref (s + 36), .ref (s + 47), .int (nI (c1)), .int (nI (c2)), .int (nI (c3)), .int (nI (c4))])) := (hag9 _ (by omega)).trans h0
    have h1 : xCd F1 (s + 1) (w) ((hLen w)) ((hVal (hLen w))) ((hOrd (hLen w))) ((hSum w)) := xCd_fr h1 (fun a9 q1 q2 => hag9 a9 (by omega))
    have h2 : xTx F1 (s + 8) (16) (dn) (ds) := xTx_fr h2 (fun a9 q1 q2 => hag9 a9 (by omega))
    have h4 : xFr F1 (s + 36) (fk) (fb) (ftn) (fts) (fw) := xFr_fr h4 (fun a9 q1 q2 => hag9 a9 (by omega))
    have h5 : xTx F1 (s + 47) (16) (rn) (rs) := xTx_fr h5 (fun a9 q1 q2 => hag9 a9 (by omega))
    have h3 : xQp F1 ((s + 10)) (k - 1) (nx) ((fun i9 => p (shI r k i9))) ((fun i9 => m (shI r k i9))) := j0
    have hag : ∀ a9 : Nat, (a9 < s ∨ s + 49 ≤ a9) → F1 a9 = F a9 := fun a9 q0 => (hag9 a9 (by omega)).trans (hag a9 q0)
    have hg_21 := hag9
    clear hag9
    refine x_aload_n hC d_State_discard_24 rfl rfl ?_
    refine x_getf hC kf_State_30 h0 rfl d_State_discard_25 ?_
    refine x_getf hC kf_State_109 h3.1 rfl d_State_discard_28 ?_
    refine hret _ _ _ _ _ _ _ d_State_discard_31 (by decide) (by decide) rfl ?_
    have e9 : aDi (w, (dn, ds), (k, nx, ms), (fk, fb, ftn, fts, fw), (rn, rs), c1, c2, c3, c4) idv = (nI (k - 1), aRm (w, (dn, ds), (k, nx, ms), (fk, fb, ftn, fts, fw), (rn, rs), c1, c2, c3, c4) r) := by rw [hr]; exact if_pos (by rw [← hr]; exact hO_5)
    exact ⟨(congrArg (fun q => some (Value.int q)) (congrArg Prod.fst e9)).symm, rfl, by rw [e9]; exact ⟨h0, h1, h2, ⟨_, _, h3, fun i hi => hms _ (shI_k hO_5 (Nat.lt_of_lt_of_le hi (Nat.sub_le k 1)))⟩, h4, h5⟩, hag⟩
  · skip
    rw [if_neg hO_5]
    rw [idAt_ext hms] at hO_5
    refine x_astore_nN hC d_State_discard_8 rfl (Nat.le_of_ble_eq_true rfl) (L1 := [some (.ref s), some (.int idv), some (.null)]) rfl ?_
    refine x_aload_nN hC d_State_discard_9 rfl rfl ?_
    refine x_ifnonnullN hC d_State_discard_10 ?_
    refine x_bipush hC d_State_discard_13 (v := -3) (by decide) ?_
    refine hret _ _ _ _ _ _ _ d_State_discard_15 (by decide) (by decide) rfl ?_
    have e9 : aDi (w, (dn, ds), (k, nx, ms), (fk, fb, ftn, fts, fw), (rn, rs), c1, c2, c3, c4) idv = (-3, (w, (dn, ds), (k, nx, ms), (fk, fb, ftn, fts, fw), (rn, rs), c1, c2, c3, c4)) := if_neg hO_5
    exact ⟨(congrArg (fun q => some (Value.int q)) (congrArg Prod.fst e9)).symm, rfl, by rw [e9]; exact ⟨h0, h1, h2, ⟨p, m, h3, hms⟩, h4, h5⟩, hag⟩

theorem d_State_putPriority_0 : decode prog_11_method_8_code 0 = .ok (.aload_n 0, 1) := by decide +kernel
theorem d_State_putPriority_1 : decode prog_11_method_8_code 1 = .ok (.getfield 30, 3) := by decide +kernel
theorem d_State_putPriority_4 : decode prog_11_method_8_code 4 = .ok (.iload_n 1, 1) := by decide +kernel
theorem d_State_putPriority_5 : decode prog_11_method_8_code 5 = .ok (.invokevirtual 101, 3) := by decide +kernel
theorem d_State_putPriority_8 : decode prog_11_method_8_code 8 = .ok (.astore_n 3, 1) := by decide +kernel
theorem d_State_putPriority_9 : decode prog_11_method_8_code 9 = .ok (.aload_n 3, 1) := by decide +kernel
theorem d_State_putPriority_10 : decode prog_11_method_8_code 10 = .ok (.ifnonnull 6, 3) := by decide +kernel
theorem d_State_putPriority_13 : decode prog_11_method_8_code 13 = .ok (.bipush (-3), 2) := by decide +kernel
theorem d_State_putPriority_15 : decode prog_11_method_8_code 15 = .ok (.ireturn, 1) := by decide +kernel
theorem d_State_putPriority_16 : decode prog_11_method_8_code 16 = .ok (.iload_n 2, 1) := by decide +kernel
theorem d_State_putPriority_17 : decode prog_11_method_8_code 17 = .ok (.invokestatic 90, 3) := by decide +kernel
theorem d_State_putPriority_20 : decode prog_11_method_8_code 20 = .ok (.ifCond .ne 5, 3) := by decide +kernel
theorem d_State_putPriority_23 : decode prog_11_method_8_code 23 = .ok (.iconst (-1), 1) := by decide +kernel
theorem d_State_putPriority_24 : decode prog_11_method_8_code 24 = .ok (.ireturn, 1) := by decide +kernel
theorem d_State_putPriority_25 : decode prog_11_method_8_code 25 = .ok (.aload_n 3, 1) := by decide +kernel
theorem d_State_putPriority_26 : decode prog_11_method_8_code 26 = .ok (.iload_n 2, 1) := by decide +kernel
theorem d_State_putPriority_27 : decode prog_11_method_8_code 27 = .ok (.putfield 112, 3) := by decide +kernel
theorem d_State_putPriority_30 : decode prog_11_method_8_code 30 = .ok (.aload_n 0, 1) := by decide +kernel
theorem d_State_putPriority_31 : decode prog_11_method_8_code 31 = .ok (.getfield 30, 3) := by decide +kernel
theorem d_State_putPriority_34 : decode prog_11_method_8_code 34 = .ok (.aload_n 3, 1) := by decide +kernel
theorem d_State_putPriority_35 : decode prog_11_method_8_code 35 = .ok (.invokevirtual 117, 3) := by decide +kernel
theorem d_State_putPriority_38 : decode prog_11_method_8_code 38 = .ok (.ireturn, 1) := by decide +kernel
set_option maxHeartbeats 4000000 in
set_option maxRecDepth 20000 in
theorem c_State_putPriority {P : xP} {F : xF} {z : Nat} {s : Nat} {A : aS} {idv : Int32} {x : Int32} (hs : xSt F (s) (A))  : xM P xy_State_putPriority [.ref s, .int idv, .int x] F (z) 0 0 (fun r9 F9 z9 => r9 = some (.int ((aHu A idv x).1)) ∧ z9 = z ∧ xSt F9 (s) ((aHu A idv x).2) ∧ (∀ a9 : Nat, (a9 < s ∨ s + 49 ≤ a9) → F9 a9 = F a9)) := by
  refine xM_i .int rfl (Nat.le_of_ble_eq_true rfl) (L0 := [some (.ref s), some (.int idv), some (.int x), none]) rfl rfl fun Θ hC hret => ?_
  have hag : ∀ a9 : Nat, (a9 < s ∨ s + 49 ≤ a9) → F a9 = F a9 := fun a9 _ => rfl
  obtain ⟨w, ⟨dn, ds⟩, ⟨k, nx, ms⟩, ⟨fk, fb, ftn, fts, fw⟩, ⟨rn, rs⟩, c1, c2, c3, c4⟩ := A
  obtain ⟨h0, h1, h2, ⟨p, m, h3, hms⟩, h4, h5⟩ := id hs
  have hms : ∀ i, i < k → m i = ms i := hms
  have h0 : F (s) = some (.inl (7, [.ref (s + 1), .ref (s + 8), .ref (s + 10), .ref (s + 36), .ref (s + 47), .int (nI (c1)), .int (nI (c2)), .int (nI (c3)), .int (nI (c4))])) := h0
  have h1 : xCd F (s + 1) (w) ((hLen w)) ((hVal (hLen w))) ((hOrd (hLen w))) ((hSum w)) := h1
  have h2 : xTx F (s + 8) (16) (dn) (ds) := h2
  have h3 : xQp F (s + 10) (k) (nx) (p) (m) := h3
  have h4 : xFr F (s + 36) (fk) (fb) (ftn) (fts) (fw) := h4
  have h5 : xTx F (s + 47) (16) (rn) (rs) := h5
  have hk8 : k ≤ 8 := h3.2.1.1
  refine x_aload_n hC d_State_putPriority_0 rfl rfl ?_
  refine x_getf hC kf_State_30 h0 rfl d_State_putPriority_1 ?_
  refine x_iload_n hC d_State_putPriority_4 rfl rfl ?_
  refine x_callV hC kv_State_101 (c_Queue_byId (hq := h3)) h3.1 rfl rfl (by decide) rfl rfl rfl (Nat.le_of_ble_eq_true rfl) (by decide) d_State_putPriority_5 (fun r9 F9 z9 hp9 => ?_)
  obtain ⟨rfl, h9b, h9c⟩ := hp9
  rw [h9b, h9c]
  clear h9b h9c F9 z9
  by_cases hO_5 : idAt m idv k < k
  · skip
    rw [if_pos hO_5]
    rw [idAt_ext hms] at hO_5 ⊢
    obtain ⟨r, hr⟩ : ∃ q9, q9 = idAt ms idv k := ⟨_, rfl⟩
    rw [← hr] at hO_5 ⊢
    have hpr : p r < 8 := h3.2.2.2.1 r (by omega)
    have hmr9 := hms r hO_5
    refine x_astore_n hC d_State_putPriority_8 rfl (Nat.le_of_ble_eq_true rfl) (L1 := [some (.ref s), some (.int idv), some (.int x), some (.ref (s + 12 + 3 * p r))]) rfl ?_
    refine x_aload_n hC d_State_putPriority_9 rfl rfl ?_
    refine x_ifnonnull hC d_State_putPriority_10 (tgt := 16) (by decide) ?_
    refine x_iload_n hC d_State_putPriority_16 rfl rfl ?_
    refine x_callS hC ks_State_90 (c_MessageCoder_isPriority ) (by decide) rfl rfl rfl (Nat.le_of_ble_eq_true rfl) (by decide) d_State_putPriority_17 (fun r9 F9 z9 hp9 => ?_)
    obtain ⟨rfl, h9b, h9c⟩ := hp9
    rw [h9b, h9c]
    clear h9b h9c F9 z9
    refine x_ifB_ne hC d_State_putPriority_20 (tgt := 25) (by decide) (fun c_20 => ?_) (fun c_20 => ?_)
    · skip
      obtain ⟨hx0, hx1⟩ := i2n_ge (n := 1) c_20.1 (by decide)
      have hx9 : x.toNatClampNeg ≤ 5 := i2n_le hx0 c_20.2 (by decide)
      have hxe := i2n_of hx0
      obtain ⟨q0, qk, ⟨qf, q1, qh⟩, qm⟩ := id h3
      obtain ⟨g0, g1, g2⟩ := qm.2.2 r (by omega)
      refine x_aload_n hC d_State_putPriority_25 rfl rfl ?_
      refine x_iload_n hC d_State_putPriority_26 rfl rfl ?_
      refine x_top (v := (nI (x.toNatClampNeg))) hxe ?_
      refine x_putf hC kf_State_112 g0 (Nat.le_of_ble_eq_true rfl) rfl rfl d_State_putPriority_27 (fs1 := [.ref (s + 12 + 3 * p r + 1), .int (nI ((m r).1)), .int (nI (x.toNatClampNeg))]) rfl ?_
      generalize e1 : xup F (s + 12 + 3 * p r) (.inl (3, [.ref (s + 12 + 3 * p r + 1), .int (nI ((m r).1)), .int (nI (x.toNatClampNeg))])) = F1
      have h0 : F1 (s) = some (.inl (7, [.ref (s + 1), .ref (s + 8), .ref (s + 10), .ref (s + 36), .ref (s + 47), .int (nI (c1)), .int (nI (c2)), .int (nI (c3)), .int (nI (c4))])) := by rw [← e1]; exact (xup_ne (by omega)).trans h0
      have h1 : xCd F1 (s + 1) (w) ((hLen w)) ((hVal (hLen w))) ((hOrd (hLen w))) ((hSum w)) := xCd_fr h1 (fun a9 q1 q2 => by rw [← e1]; exact xup_ne (by omega))
      have h2 : xTx F1 (s + 8) (16) (dn) (ds) := xTx_fr h2 (fun a9 q1 q2 => by rw [← e1]; exact xup_ne (by omega))
      have h4 : xFr F1 (s + 36) (fk) (fb) (ftn) (fts) (fw) := xFr_fr h4 (fun a9 q1 q2 => by rw [← e1]; exact xup_ne (by omega))
      have h5 : xTx F1 (s + 47) (16) (rn) (rs) := xTx_fr h5 (fun a9 q1 q2 => by rw [← e1]; exact xup_ne (by omega))
      have q0 : F1 (s + 10) = some (.inl (5, [.ref (s + 11), .int (nI (k)), .int (nI (nx))])) := by rw [← e1]; exact (xup_ne (by omega)).trans q0
      have q1 : F1 (s + 11) = some (.inr (5, 8, qf)) := by rw [← e1]; exact (xup_ne (by omega)).trans q1
      have g0 : F1 (s + 12 + 3 * p r) = some (.inl (3, [.ref (s + 12 + 3 * p r + 1), .int (nI ((m r).1)), .int (nI (x.toNatClampNeg))])) := by rw [← e1]; exact xup_eq
      have g1 : xTx F1 (s + 12 + 3 * p r + 1) (16) ((m r).2.2.1) ((m r).2.2.2) := xTx_fr g1 (fun a9 q1 q2 => by rw [← e1]; exact xup_ne (by omega))
      have hag : ∀ a9 : Nat, (a9 < s ∨ s + 49 ≤ a9) → F1 a9 = F a9 := fun a9 q0 => by rw [← e1]; exact (xup_ne (by omega)).trans (hag a9 q0)
      have h3 : xQp F1 (s + 10) k nx p (updA m r (prS (m r) x.toNatClampNeg)) := ⟨q0, qk, ⟨qf, q1, qh⟩, xQm_up qm (by omega) ⟨g0, g1, g2.1, by show x.toNatClampNeg < 1000; omega⟩ (fun a9 h9 => by rw [← e1]; exact xup_ne (by omega))⟩
      refine x_aload_n hC d_State_putPriority_30 rfl rfl ?_
      refine x_getf hC kf_State_30 h0 rfl d_State_putPriority_31 ?_
      refine x_aload_n hC d_State_putPriority_34 rfl rfl ?_
      refine x_callV hC kv_State_117 (c_Queue_rankFor (hq := h3) (hr := by omega) (r := r)) h3.1 rfl rfl (by decide) rfl rfl rfl (Nat.le_of_ble_eq_true rfl) (by decide) d_State_putPriority_35 (fun r9 F9 z9 hp9 => ?_)
      obtain ⟨rfl, h9b, h9c⟩ := hp9
      rw [h9b, h9c]
      clear h9b h9c F9 z9
      refine hret _ _ _ _ _ _ _ d_State_putPriority_38 (by decide) (by decide) rfl ?_
      have hme : ∀ i, i < k → updA m r (prS (m r) x.toNatClampNeg) i = updA ms r (prS (ms r) x.toNatClampNeg) i := fun i hi => (Decidable.em (i = r)).elim (fun q => by rw [q, updA_eq, updA_eq, hmr9]) (fun q => by rw [updA_ne q, updA_ne q]; exact hms i hi)
      have e9 : aHu (w, (dn, ds), (k, nx, ms), (fk, fb, ftn, fts, fw), (rn, rs), c1, c2, c3, c4) idv x = (nI (rkM (updA ms r (prS (ms r) x.toNatClampNeg)) r k), (w, (dn, ds), (k, nx, updA ms r (prS (ms r) x.toNatClampNeg)), (fk, fb, ftn, fts, fw), (rn, rs), c1, c2, c3, c4)) := by rw [hr] at hO_5 ⊢; exact (if_pos hO_5).trans (if_pos c_20)
      exact ⟨by rw [e9, rkM_ext (hme r hO_5) k hme], rfl, by rw [e9]; exact ⟨h0, h1, h2, ⟨p, _, h3, hme⟩, h4, h5⟩, hag⟩
    · skip
      refine x_iconst hC d_State_putPriority_23 (v := -1) (by decide) ?_
      refine hret _ _ _ _ _ _ _ d_State_putPriority_24 (by decide) (by decide) rfl ?_
      have e9 : aHu (w, (dn, ds), (k, nx, ms), (fk, fb, ftn, fts, fw), (rn, rs), c1, c2, c3, c4) idv x = (-1, (w, (dn, ds), (k, nx, ms), (fk, fb, ftn, fts, fw), (rn, rs), c1, c2, c3, c4)) := by rw [hr] at hO_5; exact (if_pos hO_5).trans (if_neg c_20)
      exact ⟨(congrArg (fun q => some (Value.int q)) (congrArg Prod.fst e9)).symm, rfl, by rw [e9]; exact ⟨h0, h1, h2, ⟨p, m, h3, hms⟩, h4, h5⟩, hag⟩
  · skip
    rw [if_neg hO_5]
    rw [idAt_ext hms] at hO_5
    refine x_astore_nN hC d_State_putPriority_8 rfl (Nat.le_of_ble_eq_true rfl) (L1 := [some (.ref s), some (.int idv), some (.int x), some (.null)]) rfl ?_
    refine x_aload_nN hC d_State_putPriority_9 rfl rfl ?_
    refine x_ifnonnullN hC d_State_putPriority_10 ?_
    refine x_bipush hC d_State_putPriority_13 (v := -3) (by decide) ?_
    refine hret _ _ _ _ _ _ _ d_State_putPriority_15 (by decide) (by decide) rfl ?_
    have e9 : aHu (w, (dn, ds), (k, nx, ms), (fk, fb, ftn, fts, fw), (rn, rs), c1, c2, c3, c4) idv x = (-3, (w, (dn, ds), (k, nx, ms), (fk, fb, ftn, fts, fw), (rn, rs), c1, c2, c3, c4)) := if_neg hO_5
    exact ⟨(congrArg (fun q => some (Value.int q)) (congrArg Prod.fst e9)).symm, rfl, by rw [e9]; exact ⟨h0, h1, h2, ⟨p, m, h3, hms⟩, h4, h5⟩, hag⟩

theorem lrn_le (w : Nat → Nat) (e : mS) (i : Nat) : lrnW w e i ≤ 99 := by
  unfold lrnW
  split <;> omega

theorem d_State_learnFrom_0 : decode prog_11_method_9_code 0 = .ok (.aload_n 0, 1) := by decide +kernel
theorem d_State_learnFrom_1 : decode prog_11_method_9_code 1 = .ok (.getfield 30, 3) := by decide +kernel
theorem d_State_learnFrom_4 : decode prog_11_method_9_code 4 = .ok (.iload_n 1, 1) := by decide +kernel
theorem d_State_learnFrom_5 : decode prog_11_method_9_code 5 = .ok (.invokevirtual 101, 3) := by decide +kernel
theorem d_State_learnFrom_8 : decode prog_11_method_9_code 8 = .ok (.astore_n 2, 1) := by decide +kernel
theorem d_State_learnFrom_9 : decode prog_11_method_9_code 9 = .ok (.aload_n 2, 1) := by decide +kernel
theorem d_State_learnFrom_10 : decode prog_11_method_9_code 10 = .ok (.ifnonnull 6, 3) := by decide +kernel
theorem d_State_learnFrom_13 : decode prog_11_method_9_code 13 = .ok (.bipush (-3), 2) := by decide +kernel
theorem d_State_learnFrom_15 : decode prog_11_method_9_code 15 = .ok (.ireturn, 1) := by decide +kernel
theorem d_State_learnFrom_16 : decode prog_11_method_9_code 16 = .ok (.iconst 0, 1) := by decide +kernel
theorem d_State_learnFrom_17 : decode prog_11_method_9_code 17 = .ok (.istore_n 3, 1) := by decide +kernel
theorem d_State_learnFrom_18 : decode prog_11_method_9_code 18 = .ok (.iload_n 3, 1) := by decide +kernel
theorem d_State_learnFrom_19 : decode prog_11_method_9_code 19 = .ok (.bipush 8, 2) := by decide +kernel
theorem d_State_learnFrom_21 : decode prog_11_method_9_code 21 = .ok (.if_icmp .ge 49, 3) := by decide +kernel
theorem d_State_learnFrom_24 : decode prog_11_method_9_code 24 = .ok (.aload_n 0, 1) := by decide +kernel
theorem d_State_learnFrom_25 : decode prog_11_method_9_code 25 = .ok (.getfield 12, 3) := by decide +kernel
theorem d_State_learnFrom_28 : decode prog_11_method_9_code 28 = .ok (.getfield 74, 3) := by decide +kernel
theorem d_State_learnFrom_31 : decode prog_11_method_9_code 31 = .ok (.iload_n 3, 1) := by decide +kernel
theorem d_State_learnFrom_32 : decode prog_11_method_9_code 32 = .ok (.iaload, 1) := by decide +kernel
theorem d_State_learnFrom_33 : decode prog_11_method_9_code 33 = .ok (.aload_n 2, 1) := by decide +kernel
theorem d_State_learnFrom_34 : decode prog_11_method_9_code 34 = .ok (.getfield 121, 3) := by decide +kernel
theorem d_State_learnFrom_37 : decode prog_11_method_9_code 37 = .ok (.bipush 97, 2) := by decide +kernel
theorem d_State_learnFrom_39 : decode prog_11_method_9_code 39 = .ok (.iload_n 3, 1) := by decide +kernel
theorem d_State_learnFrom_40 : decode prog_11_method_9_code 40 = .ok (.iadd, 1) := by decide +kernel
theorem d_State_learnFrom_41 : decode prog_11_method_9_code 41 = .ok (.i2c, 1) := by decide +kernel
theorem d_State_learnFrom_42 : decode prog_11_method_9_code 42 = .ok (.invokevirtual 124, 3) := by decide +kernel
theorem d_State_learnFrom_45 : decode prog_11_method_9_code 45 = .ok (.iadd, 1) := by decide +kernel
theorem d_State_learnFrom_46 : decode prog_11_method_9_code 46 = .ok (.istore 4, 2) := by decide +kernel
theorem d_State_learnFrom_48 : decode prog_11_method_9_code 48 = .ok (.aload_n 0, 1) := by decide +kernel
theorem d_State_learnFrom_49 : decode prog_11_method_9_code 49 = .ok (.getfield 12, 3) := by decide +kernel
theorem d_State_learnFrom_52 : decode prog_11_method_9_code 52 = .ok (.getfield 74, 3) := by decide +kernel
theorem d_State_learnFrom_55 : decode prog_11_method_9_code 55 = .ok (.iload_n 3, 1) := by decide +kernel
theorem d_State_learnFrom_56 : decode prog_11_method_9_code 56 = .ok (.iload 4, 2) := by decide +kernel
theorem d_State_learnFrom_58 : decode prog_11_method_9_code 58 = .ok (.bipush 99, 2) := by decide +kernel
theorem d_State_learnFrom_60 : decode prog_11_method_9_code 60 = .ok (.invokestatic 128, 3) := by decide +kernel
theorem d_State_learnFrom_63 : decode prog_11_method_9_code 63 = .ok (.iastore, 1) := by decide +kernel
theorem d_State_learnFrom_64 : decode prog_11_method_9_code 64 = .ok (.iinc 3 1, 3) := by decide +kernel
theorem d_State_learnFrom_67 : decode prog_11_method_9_code 67 = .ok (.goto (-49), 3) := by decide +kernel
theorem d_State_learnFrom_70 : decode prog_11_method_9_code 70 = .ok (.aload_n 0, 1) := by decide +kernel
theorem d_State_learnFrom_71 : decode prog_11_method_9_code 71 = .ok (.getfield 12, 3) := by decide +kernel
theorem d_State_learnFrom_74 : decode prog_11_method_9_code 74 = .ok (.invokevirtual 78, 3) := by decide +kernel
theorem d_State_learnFrom_77 : decode prog_11_method_9_code 77 = .ok (.aload_n 0, 1) := by decide +kernel
theorem d_State_learnFrom_78 : decode prog_11_method_9_code 78 = .ok (.getfield 12, 3) := by decide +kernel
theorem d_State_learnFrom_81 : decode prog_11_method_9_code 81 = .ok (.invokevirtual 134, 3) := by decide +kernel
theorem d_State_learnFrom_84 : decode prog_11_method_9_code 84 = .ok (.ireturn, 1) := by decide +kernel
set_option maxHeartbeats 4000000 in
set_option maxRecDepth 20000 in
theorem c_State_learnFrom {P : xP} {F : xF} {z : Nat} {s : Nat} {A : aS} {idv : Int32} (hs : xSt F (s) (A))  : xM P xy_State_learnFrom [.ref s, .int idv] F (z) 0 0 (fun r9 F9 z9 => r9 = some (.int ((aLe A idv).1)) ∧ z9 = z ∧ xSt F9 (s) ((aLe A idv).2) ∧ (∀ a9 : Nat, (a9 < s ∨ s + 49 ≤ a9) → F9 a9 = F a9)) := by
  refine xM_i .int rfl (Nat.le_of_ble_eq_true rfl) (L0 := [some (.ref s), some (.int idv), none, none, none]) rfl rfl fun Θ hC hret => ?_
  have hag : ∀ a9 : Nat, (a9 < s ∨ s + 49 ≤ a9) → F a9 = F a9 := fun a9 _ => rfl
  obtain ⟨w, ⟨dn, ds⟩, ⟨k, nx, ms⟩, ⟨fk, fb, ftn, fts, fw⟩, ⟨rn, rs⟩, c1, c2, c3, c4⟩ := A
  obtain ⟨h0, h1, h2, ⟨p, m, h3, hms⟩, h4, h5⟩ := id hs
  have hms : ∀ i, i < k → m i = ms i := hms
  have h0 : F (s) = some (.inl (7, [.ref (s + 1), .ref (s + 8), .ref (s + 10), .ref (s + 36), .ref (s + 47), .int (nI (c1)), .int (nI (c2)), .int (nI (c3)), .int (nI (c4))])) := h0
  have h1 : xCd F (s + 1) (w) ((hLen w)) ((hVal (hLen w))) ((hOrd (hLen w))) ((hSum w)) := h1
  have h2 : xTx F (s + 8) (16) (dn) (ds) := h2
  have h3 : xQp F (s + 10) (k) (nx) (p) (m) := h3
  have h4 : xFr F (s + 36) (fk) (fb) (ftn) (fts) (fw) := h4
  have h5 : xTx F (s + 47) (16) (rn) (rs) := h5
  have hk8 : k ≤ 8 := h3.2.1.1
  refine x_aload_n hC d_State_learnFrom_0 rfl rfl ?_
  refine x_getf hC kf_State_30 h0 rfl d_State_learnFrom_1 ?_
  refine x_iload_n hC d_State_learnFrom_4 rfl rfl ?_
  refine x_callV hC kv_State_101 (c_Queue_byId (hq := h3)) h3.1 rfl rfl (by decide) rfl rfl rfl (Nat.le_of_ble_eq_true rfl) (by decide) d_State_learnFrom_5 (fun r9 F9 z9 hp9 => ?_)
  obtain ⟨rfl, h9b, h9c⟩ := hp9
  rw [h9b, h9c]
  clear h9b h9c F9 z9
  by_cases hO_5 : idAt m idv k < k
  · skip
    rw [if_pos hO_5]
    rw [idAt_ext hms] at hO_5 ⊢
    obtain ⟨r, hr⟩ : ∃ q9, q9 = idAt ms idv k := ⟨_, rfl⟩
    rw [← hr] at hO_5 ⊢
    have hpr : p r < 8 := h3.2.2.2.1 r (by omega)
    have hmr9 := hms r hO_5
    refine x_astore_n hC d_State_learnFrom_8 rfl (Nat.le_of_ble_eq_true rfl) (L1 := [some (.ref s), some (.int idv), some (.ref (s + 12 + 3 * p r)), none, none]) rfl ?_
    refine x_aload_n hC d_State_learnFrom_9 rfl rfl ?_
    refine x_ifnonnull hC d_State_learnFrom_10 (tgt := 16) (by decide) ?_
    have hmr : xMs F (s + 12 + 3 * p r) ((ms r).1) ((ms r).2.1) ((ms r).2.2.1) ((ms r).2.2.2) := by rw [← hmr9]; exact h3.2.2.2.2.2 r (by omega)
    obtain ⟨g0, ⟨ga, g1, gk1⟩, ⟨gb, g2, gk2⟩, ⟨gc, g3, gk3⟩, ⟨gd, g4, gk4⟩, ⟨g5x, ge, g5, gk5⟩, ⟨g6x, gf, g6, gk6⟩, gbd, gjs⟩ := id h1
    have hnr : (ms r).2.2.1 ≤ 16 := hmr.2.1.2.1.1
    refine x_iconst hC d_State_learnFrom_16 (v := nI 0) (by decide) ?_
    refine x_istore_n hC d_State_learnFrom_17 rfl (Nat.le_of_ble_eq_true rfl) (L1 := [some (.ref s), some (.int idv), some (.ref (s + 12 + 3 * p r)), some (.int (nI 0)), none]) rfl ?_
    have loop_18 : ∀ (m9 : Nat) (Fh18 : xF) (i : Nat) (ga1 : Nat → Nat), (Fh18 (s) = some (.inl (7, [.ref (s + 1), .ref (s + 8), .ref (s + 10), .ref (s + 36), .ref (s + 47), .int (nI (c1)), .int (nI (c2)), .int (nI (c3)), .int (nI (c4))]))) → (xTx Fh18 (s + 8) (16) (dn) (ds)) → (xQp Fh18 (s + 10) (k) (nx) (p) (m)) → (xFr Fh18 (s + 36) (fk) (fb) (ftn) (fts) (fw)) → (xTx Fh18 (s + 47) (16) (rn) (rs)) → (xMs Fh18 (s + 12 + 3 * p r) ((ms r).1) ((ms r).2.1) ((ms r).2.2.1) ((ms r).2.2.2)) → (Fh18 (s + 1) = some (.inl (1, [.ref (s + 2), .ref (s + 3), .ref (s + 4), .ref (s + 5), .ref (s + 6), .ref (s + 7), .int (nI (hSum w))]))) → (Fh18 (s + 2) = some (.inr (0, 8, fun b9 => .int (nI (ga1 b9))))) → (Fh18 (s + 3) = some (.inr (0, 8, fun b9 => .int (nI (gb b9))))) → (Fh18 (s + 4) = some (.inr (0, 8, fun b9 => .int (nI (gc b9))))) → (Fh18 (s + 5) = some (.inr (0, 8, fun b9 => .int (nI (gd b9))))) → (Fh18 (s + 6) = some (.inr (0, 8, fun b9 => .int (nI (ge b9))))) → (Fh18 (s + 7) = some (.inr (0, 8, fun b9 => .int (nI (gf b9))))) → (∀ a9 : Nat, (a9 < s ∨ s + 49 ≤ a9) → Fh18 a9 = F a9) → (i ≤ 8) → (∀ j, j < i → ga1 j = lrnW w (ms r) j) → (∀ j, i ≤ j → j < 8 → ga1 j = ga j) → (8 - i < m9) → xX P Θ 18 [some (.ref s), some (.int idv), some (.ref (s + 12 + 3 * p r)), some (.int (nI (i))), none] [] Fh18 (z) 0 0 := by
      intro m9
      induction m9 with
      | zero => intros; omega
      | succ m9 ih_18 =>
        intro Fh18 i ga1 h0 h2 h3 h4 h5 hmr g0 g1 g2 g3 g4 g5 g6 hag hi kz1 kz2 hm_18
        refine x_iload_n hC d_State_learnFrom_18 rfl rfl ?_
        refine x_bipush hC d_State_learnFrom_19 (v := nI 8) (by decide) ?_
        refine x_icmpN_ge hC d_State_learnFrom_21 (tgt := 70) (by decide) (by omega) (by omega) (fun c_21 => ?_) (fun c_21 => ?_)
        · skip
          have h1 : xCd Fh18 (s + 1) ((lrnW w (ms r))) ((hLen w)) ((hVal (hLen w))) ((hOrd (hLen w))) ((hSum w)) := ⟨g0, ⟨ga1, g1, fun j hj => kz1 j (by omega)⟩, ⟨gb, g2, gk2⟩, ⟨gc, g3, gk3⟩, ⟨gd, g4, gk4⟩, ⟨g5x, ge, g5, gk5⟩, ⟨g6x, gf, g6, gk6⟩, fun j hj => ⟨lrn_le _ _ _, (gbd j hj).2⟩, gjs⟩
          refine x_aload_n hC d_State_learnFrom_70 rfl rfl ?_
          refine x_getf hC kf_State_12 h0 rfl d_State_learnFrom_71 ?_
          refine x_callV hC kv_State_78 (c_Code_derive (hc := h1)) h1.1 rfl rfl (by decide) rfl rfl rfl (Nat.le_of_ble_eq_true rfl) (by decide) d_State_learnFrom_74 (fun r9 F9 z9 hp9 => ?_)
          obtain ⟨rfl, h9c, j0, hag9⟩ := hp9
          rw [h9c]
          clear h9c z9
          generalize F9 = F1 at *
          have h0 : F1 (s) = some (.inl (7, [.ref (s + 1), .ref (s + 8), .ref (s + 10), .ref (s + 36), .ref (s + 47), .int (nI (c1)), .int (nI (c2)), .int (nI (c3)), .int (nI (c4))])) := (hag9 _ (by omega)).trans h0
          have h2 : xTx F1 (s + 8) (16) (dn) (ds) := xTx_fr h2 (fun a9 q1 q2 => hag9 a9 (by omega))
          have h3 : xQp F1 (s + 10) (k) (nx) (p) (m) := xQp_fr h3 (fun a9 q1 q2 => hag9 a9 (by omega))
          have h4 : xFr F1 (s + 36) (fk) (fb) (ftn) (fts) (fw) := xFr_fr h4 (fun a9 q1 q2 => hag9 a9 (by omega))
          have h5 : xTx F1 (s + 47) (16) (rn) (rs) := xTx_fr h5 (fun a9 q1 q2 => hag9 a9 (by omega))
          have hmr : xMs F1 (s + 12 + 3 * p r) ((ms r).1) ((ms r).2.1) ((ms r).2.2.1) ((ms r).2.2.2) := xMs_fr hmr (fun a9 q1 q2 => hag9 a9 (by omega))
          have h1 : xCd F1 ((s + 1)) ((lrnW w (ms r))) ((hLen (lrnW w (ms r)))) ((hVal (hLen (lrnW w (ms r))))) ((hOrd (hLen (lrnW w (ms r))))) ((hSum (lrnW w (ms r)))) := j0
          have hag : ∀ a9 : Nat, (a9 < s ∨ s + 49 ≤ a9) → F1 a9 = F a9 := fun a9 q0 => (hag9 a9 (by omega)).trans (hag a9 q0)
          have hg_74 := hag9
          clear hag9
          refine x_aload_n hC d_State_learnFrom_77 rfl rfl ?_
          refine x_getf hC kf_State_12 h0 rfl d_State_learnFrom_78 ?_
          refine x_callV hC kv_State_134 (c_Code_weightSum (hc := h1)) h1.1 rfl rfl (by decide) rfl rfl rfl (Nat.le_of_ble_eq_true rfl) (by decide) d_State_learnFrom_81 (fun r9 F9 z9 hp9 => ?_)
          obtain ⟨rfl, h9b, h9c⟩ := hp9
          rw [h9b, h9c]
          clear h9b h9c F9 z9
          refine hret _ _ _ _ _ _ _ d_State_learnFrom_84 (by decide) (by decide) rfl ?_
          have e9 : aLe (w, (dn, ds), (k, nx, ms), (fk, fb, ftn, fts, fw), (rn, rs), c1, c2, c3, c4) idv = (nI (sumN (lrnW w (ms r)) 8), ((lrnW w (ms r)), (dn, ds), (k, nx, ms), (fk, fb, ftn, fts, fw), (rn, rs), c1, c2, c3, c4)) := by rw [hr]; exact if_pos (by rw [← hr]; exact hO_5)
          exact ⟨(congrArg (fun q => some (Value.int q)) (congrArg Prod.fst e9)).symm, rfl, by rw [e9]; exact ⟨h0, h1, h2, ⟨p, m, h3, hms⟩, h4, h5⟩, hag⟩
        · skip
          refine x_aload_n hC d_State_learnFrom_24 rfl rfl ?_
          refine x_getf hC kf_State_12 h0 rfl d_State_learnFrom_25 ?_
          refine x_getf hC kf_State_74 g0 rfl d_State_learnFrom_28 ?_
          refine x_iload_n hC d_State_learnFrom_31 rfl rfl ?_
          refine x_iald hC g1 (j := i) ⟨rfl, by omega, by omega⟩ (x := nI (ga1 (i))) rfl d_State_learnFrom_32 ?_
          refine x_aload_n hC d_State_learnFrom_33 rfl rfl ?_
          refine x_getf hC kf_State_121 hmr.1 rfl d_State_learnFrom_34 ?_
          refine x_bipush hC d_State_learnFrom_37 (v := nI 97) (by decide) ?_
          refine x_iload_n hC d_State_learnFrom_39 rfl rfl ?_
          refine x_iadd hC d_State_learnFrom_40 (v := (nI (97 + i))) (x_addN (by omega)) ?_
          refine x_i2c hC d_State_learnFrom_41 (v := (nI (97 + i))) (x_i2cN (by omega)) ?_
          have htm := tmOf_le (ms r).2.2.2 (97 + i) (ms r).2.2.1
          refine x_callV hC kv_State_124 (c_Text_timesOf (ht := hmr.2.1) (hc0 := by omega)) hmr.2.1.1 rfl rfl (by decide) rfl rfl rfl (Nat.le_of_ble_eq_true rfl) (by decide) d_State_learnFrom_42 (fun r9 F9 z9 hp9 => ?_)
          obtain ⟨rfl, h9b, h9c⟩ := hp9
          rw [h9b, h9c]
          clear h9b h9c F9 z9
          have hwi : ga1 i = w i := (kz2 i (Nat.le_refl i) (by omega)).trans (gk1 i (by omega))
          have hw9 : w i ≤ 99 := (gbd i (by omega)).1
          refine x_iadd hC d_State_learnFrom_45 (v := (nI ((ga1 (i)) + (tmOf ((ms r).2.2.2) (97 + i) ((ms r).2.2.1))))) (x_addN (by omega)) ?_
          refine x_istore hC d_State_learnFrom_46 (Nat.le_of_ble_eq_true rfl) (L1 := [some (.ref s), some (.int idv), some (.ref (s + 12 + 3 * p r)), some (.int (nI (i))), some (.int (nI ((ga1 (i)) + (tmOf ((ms r).2.2.2) (97 + i) ((ms r).2.2.1)))))]) rfl ?_
          refine x_aload_n hC d_State_learnFrom_48 rfl rfl ?_
          refine x_getf hC kf_State_12 h0 rfl d_State_learnFrom_49 ?_
          refine x_getf hC kf_State_74 g0 rfl d_State_learnFrom_52 ?_
          refine x_iload_n hC d_State_learnFrom_55 rfl rfl ?_
          refine x_iload hC d_State_learnFrom_56 rfl ?_
          refine x_bipush hC d_State_learnFrom_58 (v := nI 99) (by decide) ?_
          refine x_mminN hC km_State_128 (by omega) (by omega) rfl (by decide) (Nat.le_of_ble_eq_true rfl) (by decide) d_State_learnFrom_60 (v := lrnW w (ms r) i) (by rw [hwi]; rfl) ?_
          refine x_iast hC g1 (j := i) ⟨rfl, by omega, by omega⟩ d_State_learnFrom_63 (g1 := fun b9 => nI (updN ga1 (i) (lrnW w (ms r) i) b9)) (x_updN _ _ _) ?_
          generalize eq1 : updN ga1 (i) (lrnW w (ms r) i) = q1
          generalize e3 : xup Fh18 (s + 2) (.inr (0, 8, fun b9 => .int (nI (q1 b9)))) = F3
          have h0 : F3 (s) = some (.inl (7, [.ref (s + 1), .ref (s + 8), .ref (s + 10), .ref (s + 36), .ref (s + 47), .int (nI (c1)), .int (nI (c2)), .int (nI (c3)), .int (nI (c4))])) := by rw [← e3]; exact (xup_ne (by omega)).trans h0
          have h2 : xTx F3 (s + 8) (16) (dn) (ds) := xTx_fr h2 (fun a9 q1 q2 => by rw [← e3]; exact xup_ne (by omega))
          have h3 : xQp F3 (s + 10) (k) (nx) (p) (m) := xQp_fr h3 (fun a9 q1 q2 => by rw [← e3]; exact xup_ne (by omega))
          have h4 : xFr F3 (s + 36) (fk) (fb) (ftn) (fts) (fw) := xFr_fr h4 (fun a9 q1 q2 => by rw [← e3]; exact xup_ne (by omega))
          have h5 : xTx F3 (s + 47) (16) (rn) (rs) := xTx_fr h5 (fun a9 q1 q2 => by rw [← e3]; exact xup_ne (by omega))
          have hmr : xMs F3 (s + 12 + 3 * p r) ((ms r).1) ((ms r).2.1) ((ms r).2.2.1) ((ms r).2.2.2) := xMs_fr hmr (fun a9 q1 q2 => by rw [← e3]; exact xup_ne (by omega))
          have g0 : F3 (s + 1) = some (.inl (1, [.ref (s + 2), .ref (s + 3), .ref (s + 4), .ref (s + 5), .ref (s + 6), .ref (s + 7), .int (nI (hSum w))])) := by rw [← e3]; exact (xup_ne (by omega)).trans g0
          have g1 : F3 (s + 2) = some (.inr (0, 8, fun b9 => .int (nI (q1 b9)))) := by rw [← e3]; exact xup_eq
          have g2 : F3 (s + 3) = some (.inr (0, 8, fun b9 => .int (nI (gb b9)))) := by rw [← e3]; exact (xup_ne (by omega)).trans g2
          have g3 : F3 (s + 4) = some (.inr (0, 8, fun b9 => .int (nI (gc b9)))) := by rw [← e3]; exact (xup_ne (by omega)).trans g3
          have g4 : F3 (s + 5) = some (.inr (0, 8, fun b9 => .int (nI (gd b9)))) := by rw [← e3]; exact (xup_ne (by omega)).trans g4
          have g5 : F3 (s + 6) = some (.inr (0, 8, fun b9 => .int (nI (ge b9)))) := by rw [← e3]; exact (xup_ne (by omega)).trans g5
          have g6 : F3 (s + 7) = some (.inr (0, 8, fun b9 => .int (nI (gf b9)))) := by rw [← e3]; exact (xup_ne (by omega)).trans g6
          have hag : ∀ a9 : Nat, (a9 < s ∨ s + 49 ≤ a9) → F3 a9 = F a9 := fun a9 q0 => by rw [← e3]; exact (xup_ne (by omega)).trans (hag a9 q0)
          refine x_iinc hC d_State_learnFrom_64 rfl (v := (nI (i + 1))) (x_incN 1) (Nat.le_of_ble_eq_true rfl) (L1 := [some (.ref s), some (.int idv), some (.ref (s + 12 + 3 * p r)), some (.int (nI (i + 1))), some (.int (nI ((ga1 (i)) + (tmOf ((ms r).2.2.2) (97 + i) ((ms r).2.2.1)))))]) rfl ?_
          refine x_goto hC d_State_learnFrom_67 (tgt := 18) (by decide) ?_
          refine x_forget (L1 := [some (.ref s), some (.int idv), some (.ref (s + 12 + 3 * p r)), some (.int (nI (i + 1))), none]) ⟨Or.inr rfl, ⟨Or.inr rfl, ⟨Or.inr rfl, ⟨Or.inr rfl, ⟨Or.inl rfl, trivial⟩⟩⟩⟩⟩ ?_
          exact ih_18 F3 (i + 1) (q1) h0 h2 h3 h4 h5 hmr g0 g1 g2 g3 g4 g5 g6 hag (by omega) (fun j hj => (Nat.lt_or_ge j i).elim (fun q => by rw [← eq1, updN_ne (by omega)]; exact kz1 j q) (fun q => by rw [← eq1, show j = i by omega, updN_eq])) (fun j hj h8 => by rw [← eq1, updN_ne (by omega)]; exact kz2 j (by omega) h8) (by omega)
    exact loop_18 (8 - 0 + 1) F (0) (ga) h0 h2 h3 h4 h5 hmr g0 g1 g2 g3 g4 g5 g6 hag (by omega) (fun _ hj => absurd hj (by omega)) (fun _ _ _ => rfl) (by omega)
  · skip
    rw [if_neg hO_5]
    rw [idAt_ext hms] at hO_5
    refine x_astore_nN hC d_State_learnFrom_8 rfl (Nat.le_of_ble_eq_true rfl) (L1 := [some (.ref s), some (.int idv), some (.null), none, none]) rfl ?_
    refine x_aload_nN hC d_State_learnFrom_9 rfl rfl ?_
    refine x_ifnonnullN hC d_State_learnFrom_10 ?_
    refine x_bipush hC d_State_learnFrom_13 (v := -3) (by decide) ?_
    refine hret _ _ _ _ _ _ _ d_State_learnFrom_15 (by decide) (by decide) rfl ?_
    have e9 : aLe (w, (dn, ds), (k, nx, ms), (fk, fb, ftn, fts, fw), (rn, rs), c1, c2, c3, c4) idv = (-3, (w, (dn, ds), (k, nx, ms), (fk, fb, ftn, fts, fw), (rn, rs), c1, c2, c3, c4)) := if_neg hO_5
    exact ⟨(congrArg (fun q => some (Value.int q)) (congrArg Prod.fst e9)).symm, rfl, by rw [e9]; exact ⟨h0, h1, h2, ⟨p, m, h3, hms⟩, h4, h5⟩, hag⟩

theorem d_State_sendFirst_0 : decode prog_11_method_10_code 0 = .ok (.aload_n 0, 1) := by decide +kernel
theorem d_State_sendFirst_1 : decode prog_11_method_10_code 1 = .ok (.getfield 30, 3) := by decide +kernel
theorem d_State_sendFirst_4 : decode prog_11_method_10_code 4 = .ok (.iconst 0, 1) := by decide +kernel
theorem d_State_sendFirst_5 : decode prog_11_method_10_code 5 = .ok (.invokevirtual 138, 3) := by decide +kernel
theorem d_State_sendFirst_8 : decode prog_11_method_10_code 8 = .ok (.astore_n 2, 1) := by decide +kernel
theorem d_State_sendFirst_9 : decode prog_11_method_10_code 9 = .ok (.aload_n 2, 1) := by decide +kernel
theorem d_State_sendFirst_10 : decode prog_11_method_10_code 10 = .ok (.ifnonnull 6, 3) := by decide +kernel
theorem d_State_sendFirst_13 : decode prog_11_method_10_code 13 = .ok (.bipush (-3), 2) := by decide +kernel
theorem d_State_sendFirst_15 : decode prog_11_method_10_code 15 = .ok (.ireturn, 1) := by decide +kernel
theorem d_State_sendFirst_16 : decode prog_11_method_10_code 16 = .ok (.aload_n 0, 1) := by decide +kernel
theorem d_State_sendFirst_17 : decode prog_11_method_10_code 17 = .ok (.getfield 37, 3) := by decide +kernel
theorem d_State_sendFirst_20 : decode prog_11_method_10_code 20 = .ok (.aload_n 2, 1) := by decide +kernel
theorem d_State_sendFirst_21 : decode prog_11_method_10_code 21 = .ok (.getfield 121, 3) := by decide +kernel
theorem d_State_sendFirst_24 : decode prog_11_method_10_code 24 = .ok (.aload_n 0, 1) := by decide +kernel
theorem d_State_sendFirst_25 : decode prog_11_method_10_code 25 = .ok (.getfield 12, 3) := by decide +kernel
theorem d_State_sendFirst_28 : decode prog_11_method_10_code 28 = .ok (.aload_n 1, 1) := by decide +kernel
theorem d_State_sendFirst_29 : decode prog_11_method_10_code 29 = .ok (.invokevirtual 141, 3) := by decide +kernel
theorem d_State_sendFirst_32 : decode prog_11_method_10_code 32 = .ok (.aload_n 0, 1) := by decide +kernel
theorem d_State_sendFirst_33 : decode prog_11_method_10_code 33 = .ok (.getfield 30, 3) := by decide +kernel
theorem d_State_sendFirst_36 : decode prog_11_method_10_code 36 = .ok (.aload_n 2, 1) := by decide +kernel
theorem d_State_sendFirst_37 : decode prog_11_method_10_code 37 = .ok (.invokevirtual 105, 3) := by decide +kernel
theorem d_State_sendFirst_40 : decode prog_11_method_10_code 40 = .ok (.aload_n 0, 1) := by decide +kernel
theorem d_State_sendFirst_41 : decode prog_11_method_10_code 41 = .ok (.dup, 1) := by decide +kernel
theorem d_State_sendFirst_42 : decode prog_11_method_10_code 42 = .ok (.getfield 57, 3) := by decide +kernel
theorem d_State_sendFirst_45 : decode prog_11_method_10_code 45 = .ok (.iconst 1, 1) := by decide +kernel
theorem d_State_sendFirst_46 : decode prog_11_method_10_code 46 = .ok (.iadd, 1) := by decide +kernel
theorem d_State_sendFirst_47 : decode prog_11_method_10_code 47 = .ok (.putfield 57, 3) := by decide +kernel
theorem d_State_sendFirst_50 : decode prog_11_method_10_code 50 = .ok (.aload_n 0, 1) := by decide +kernel
theorem d_State_sendFirst_51 : decode prog_11_method_10_code 51 = .ok (.getfield 37, 3) := by decide +kernel
theorem d_State_sendFirst_54 : decode prog_11_method_10_code 54 = .ok (.invokevirtual 145, 3) := by decide +kernel
theorem d_State_sendFirst_57 : decode prog_11_method_10_code 57 = .ok (.ireturn, 1) := by decide +kernel
set_option maxHeartbeats 4000000 in
set_option maxRecDepth 20000 in
theorem c_State_sendFirst {P : xP} {F : xF} {z : Nat} {s : Nat} {A : aS} {b : Nat} {n : Nat} {f : Nat → Nat} (hs : xSt F (s) (A)) (hb : xBt F (b) (n) (f)) (hdb : b + 2 ≤ s ∨ s + 49 ≤ b) : xM P xy_State_sendFirst [.ref s, .ref b] F (z) 0 0 (fun r9 F9 z9 => ∃ nb1 : Nat, ∃ fb1 : Nat → Nat, r9 = some (.int ((aSe A).1)) ∧ z9 = z ∧ xSt F9 (s) ((aSe A).2) ∧ xBt F9 (b) (nb1) (fb1) ∧ (∀ a9 : Nat, (a9 < s ∨ s + 49 ≤ a9) → (a9 < b ∨ b + 2 ≤ a9) → F9 a9 = F a9)) := by
  refine xM_i .int rfl (Nat.le_of_ble_eq_true rfl) (L0 := [some (.ref s), some (.ref b), none]) rfl rfl fun Θ hC hret => ?_
  have hag : ∀ a9 : Nat, (a9 < s ∨ s + 49 ≤ a9) → (a9 < b ∨ b + 2 ≤ a9) → F a9 = F a9 := fun a9 _ _ => rfl
  obtain ⟨w, ⟨dn, ds⟩, ⟨k, nx, ms⟩, ⟨fk, fb, ftn, fts, fw⟩, ⟨rn, rs⟩, c1, c2, c3, c4⟩ := A
  obtain ⟨h0, h1, h2, ⟨p, m, h3, hms⟩, h4, h5⟩ := id hs
  have hms : ∀ i, i < k → m i = ms i := hms
  have h0 : F (s) = some (.inl (7, [.ref (s + 1), .ref (s + 8), .ref (s + 10), .ref (s + 36), .ref (s + 47), .int (nI (c1)), .int (nI (c2)), .int (nI (c3)), .int (nI (c4))])) := h0
  have h1 : xCd F (s + 1) (w) ((hLen w)) ((hVal (hLen w))) ((hOrd (hLen w))) ((hSum w)) := h1
  have h2 : xTx F (s + 8) (16) (dn) (ds) := h2
  have h3 : xQp F (s + 10) (k) (nx) (p) (m) := h3
  have h4 : xFr F (s + 36) (fk) (fb) (ftn) (fts) (fw) := h4
  have h5 : xTx F (s + 47) (16) (rn) (rs) := h5
  have hk8 : k ≤ 8 := h3.2.1.1
  refine x_aload_n hC d_State_sendFirst_0 rfl rfl ?_
  refine x_getf hC kf_State_30 h0 rfl d_State_sendFirst_1 ?_
  refine x_iconst hC d_State_sendFirst_4 (v := nI 0) (by decide) ?_
  refine x_callV hC kv_State_138 (c_Queue_byRank (hq := h3)) h3.1 rfl rfl (by decide) rfl rfl rfl (Nat.le_of_ble_eq_true rfl) (by decide) d_State_sendFirst_5 (fun r9 F9 z9 hp9 => ?_)
  obtain ⟨rfl, h9b, h9c⟩ := hp9
  rw [h9b, h9c]
  clear h9b h9c F9 z9
  by_cases hO_5 : rankAt m (nI (0)) k < k
  · skip
    rw [if_pos hO_5]
    rw [rankAt_ext hms] at hO_5 ⊢
    obtain ⟨r, hr⟩ : ∃ q9, q9 = rankAt ms (nI 0) k := ⟨_, rfl⟩
    rw [← hr] at hO_5 ⊢
    have hpr : p r < 8 := h3.2.2.2.1 r (by omega)
    have hmr9 := hms r hO_5
    refine x_astore_n hC d_State_sendFirst_8 rfl (Nat.le_of_ble_eq_true rfl) (L1 := [some (.ref s), some (.ref b), some (.ref (s + 12 + 3 * p r))]) rfl ?_
    refine x_aload_n hC d_State_sendFirst_9 rfl rfl ?_
    refine x_ifnonnull hC d_State_sendFirst_10 (tgt := 16) (by decide) ?_
    have hmr : xMs F (s + 12 + 3 * p r) ((ms r).1) ((ms r).2.1) ((ms r).2.2.1) ((ms r).2.2.2) := by rw [← hmr9]; exact h3.2.2.2.2.2 r (by omega)
    refine x_aload_n hC d_State_sendFirst_16 rfl rfl ?_
    refine x_getf hC kf_State_37 h0 rfl d_State_sendFirst_17 ?_
    refine x_aload_n hC d_State_sendFirst_20 rfl rfl ?_
    refine x_getf hC kf_State_121 hmr.1 rfl d_State_sendFirst_21 ?_
    refine x_aload_n hC d_State_sendFirst_24 rfl rfl ?_
    refine x_getf hC kf_State_12 h0 rfl d_State_sendFirst_25 ?_
    refine x_aload_n hC d_State_sendFirst_28 rfl rfl ?_
    refine x_callV hC kv_State_141 (c_Frame_make (hr := h4) (ht := hmr.2.1) (hc := h1) (hq := hb) (hd1 := by omega) (hd2 := by omega) (hd3 := by omega) (hd4 := by omega) (hd5 := by omega)) h4.1 rfl rfl (by decide) rfl rfl rfl (Nat.le_of_ble_eq_true rfl) (by decide) d_State_sendFirst_29 (fun r9 F9 z9 hp9 => ?_)
    obtain ⟨rfl, h9c, j0, j1, j2, j3, hag9⟩ := hp9
    rw [h9c]
    clear h9c z9
    generalize F9 = F1 at *
    have h0 : F1 (s) = some (.inl (7, [.ref (s + 1), .ref (s + 8), .ref (s + 10), .ref (s + 36), .ref (s + 47), .int (nI (c1)), .int (nI (c2)), .int (nI (c3)), .int (nI (c4))])) := (hag9 _ (by omega) (by omega)).trans h0
    have h2 : xTx F1 (s + 8) (16) (dn) (ds) := xTx_fr h2 (fun a9 q1 q2 => hag9 a9 (by omega) (by omega))
    have h3 : xQp F1 (s + 10) (k) (nx) (p) (m) := xQp_fr h3 (fun a9 q1 q2 => hag9 a9 (by omega) (by omega))
    have h5 : xTx F1 (s + 47) (16) (rn) (rs) := xTx_fr h5 (fun a9 q1 q2 => hag9 a9 (by omega) (by omega))
    have hmr : xMs F1 (s + 12 + 3 * p r) ((ms r).1) ((ms r).2.1) ((ms r).2.2.1) ((ms r).2.2.2) := xMs_fr hmr (fun a9 q1 q2 => hag9 a9 (by omega) (by omega))
    have h4 : xFr F1 ((s + 36)) (((bitsN (hLen w) ((ms r).2.2.2) ((ms r).2.2.1) + 3) / 4)) ((fun j => blkN (fourB (bitsN (hLen w) ((ms r).2.2.2) ((ms r).2.2.1)) (splB (hLen w) (hVal (hLen w)) ((ms r).2.2.2) ((ms r).2.2.1)) 0 (4 * j)))) (((ms r).2.2.1)) (((ms r).2.2.2)) (w) := j0
    have hb : xBt F1 (b) ((bitsN (hLen w) ((ms r).2.2.2) ((ms r).2.2.1))) ((splB (hLen w) (hVal (hLen w)) ((ms r).2.2.2) ((ms r).2.2.1))) := j1
    have hnht_29 : xTx F1 ((s + 12 + 3 * p r + 1)) (16) (((ms r).2.2.1)) (((ms r).2.2.2)) := j2
    have h1 : xCd F1 ((s + 1)) (w) ((hLen w)) ((hVal (hLen w))) ((hOrd (hLen w))) ((hSum w)) := j3
    have hag : ∀ a9 : Nat, (a9 < s ∨ s + 49 ≤ a9) → (a9 < b ∨ b + 2 ≤ a9) → F1 a9 = F a9 := fun a9 q0 q1 => (hag9 a9 (by omega) (by omega)).trans (hag a9 q0 q1)
    have hg_29 := hag9
    clear hag9
    refine x_aload_n hC d_State_sendFirst_32 rfl rfl ?_
    refine x_getf hC kf_State_30 h0 rfl d_State_sendFirst_33 ?_
    refine x_aload_n hC d_State_sendFirst_36 rfl rfl ?_
    refine x_callV hC kv_State_105 (c_Queue_remove (hq := h3) (hr := by omega) (r := r)) h3.1 rfl rfl (by decide) rfl rfl rfl (Nat.le_of_ble_eq_true rfl) (by decide) d_State_sendFirst_37 (fun r9 F9 z9 hp9 => ?_)
    obtain ⟨rfl, h9c, j0, hag9⟩ := hp9
    rw [h9c]
    clear h9c z9
    generalize F9 = F2 at *
    have h0 : F2 (s) = some (.inl (7, [.ref (s + 1), .ref (s + 8), .ref (s + 10), .ref (s + 36), .ref (s + 47), .int (nI (c1)), .int (nI (c2)), .int (nI (c3)), .int (nI (c4))])) := (hag9 _ (by omega)).trans h0
    have h2 : xTx F2 (s + 8) (16) (dn) (ds) := xTx_fr h2 (fun a9 q1 q2 => hag9 a9 (by omega))
    have h5 : xTx F2 (s + 47) (16) (rn) (rs) := xTx_fr h5 (fun a9 q1 q2 => hag9 a9 (by omega))
    have h4 : xFr F2 ((s + 36)) (((bitsN (hLen w) ((ms r).2.2.2) ((ms r).2.2.1) + 3) / 4)) ((fun j => blkN (fourB (bitsN (hLen w) ((ms r).2.2.2) ((ms r).2.2.1)) (splB (hLen w) (hVal (hLen w)) ((ms r).2.2.2) ((ms r).2.2.1)) 0 (4 * j)))) (((ms r).2.2.1)) (((ms r).2.2.2)) (w) := xFr_fr h4 (fun a9 q1 q2 => hag9 a9 (by omega))
    have hb : xBt F2 (b) ((bitsN (hLen w) ((ms r).2.2.2) ((ms r).2.2.1))) ((splB (hLen w) (hVal (hLen w)) ((ms r).2.2.2) ((ms r).2.2.1))) := xBt_fr hb (fun a9 q1 q2 => hag9 a9 (by omega))
    have h1 : xCd F2 ((s + 1)) (w) ((hLen w)) ((hVal (hLen w))) ((hOrd (hLen w))) ((hSum w)) := xCd_fr h1 (fun a9 q1 q2 => hag9 a9 (by omega))
    have h3 : xQp F2 ((s + 10)) (k - 1) (nx) ((fun i9 => p (shI r k i9))) ((fun i9 => m (shI r k i9))) := j0
    have hag : ∀ a9 : Nat, (a9 < s ∨ s + 49 ≤ a9) → (a9 < b ∨ b + 2 ≤ a9) → F2 a9 = F a9 := fun a9 q0 q1 => (hag9 a9 (by omega)).trans (hag a9 q0 q1)
    have hg_37 := hag9
    clear hag9
    refine x_aload_n hC d_State_sendFirst_40 rfl rfl ?_
    refine x_dup hC d_State_sendFirst_41 rfl ?_
    refine x_getf hC kf_State_57 h0 rfl d_State_sendFirst_42 ?_
    refine x_iconst hC d_State_sendFirst_45 (v := nI 1) (by decide) ?_
    refine x_iadd hC d_State_sendFirst_46 (v := (nI (c1 + 1))) (x_addN (by omega)) ?_
    refine x_putf hC kf_State_57 h0 (Nat.le_of_ble_eq_true rfl) rfl rfl d_State_sendFirst_47 (fs1 := [.ref (s + 1), .ref (s + 8), .ref (s + 10), .ref (s + 36), .ref (s + 47), .int (nI (c1 + 1)), .int (nI (c2)), .int (nI (c3)), .int (nI (c4))]) rfl ?_
    generalize e3 : xup F2 (s) (.inl (7, [.ref (s + 1), .ref (s + 8), .ref (s + 10), .ref (s + 36), .ref (s + 47), .int (nI (c1 + 1)), .int (nI (c2)), .int (nI (c3)), .int (nI (c4))])) = F3
    have h0 : F3 (s) = some (.inl (7, [.ref (s + 1), .ref (s + 8), .ref (s + 10), .ref (s + 36), .ref (s + 47), .int (nI (c1 + 1)), .int (nI (c2)), .int (nI (c3)), .int (nI (c4))])) := by rw [← e3]; exact xup_eq
    have h2 : xTx F3 (s + 8) (16) (dn) (ds) := xTx_fr h2 (fun a9 q1 q2 => by rw [← e3]; exact xup_ne (by omega))
    have h5 : xTx F3 (s + 47) (16) (rn) (rs) := xTx_fr h5 (fun a9 q1 q2 => by rw [← e3]; exact xup_ne (by omega))
    have h4 : xFr F3 ((s + 36)) (((bitsN (hLen w) ((ms r).2.2.2) ((ms r).2.2.1) + 3) / 4)) ((fun j => blkN (fourB (bitsN (hLen w) ((ms r).2.2.2) ((ms r).2.2.1)) (splB (hLen w) (hVal (hLen w)) ((ms r).2.2.2) ((ms r).2.2.1)) 0 (4 * j)))) (((ms r).2.2.1)) (((ms r).2.2.2)) (w) := xFr_fr h4 (fun a9 q1 q2 => by rw [← e3]; exact xup_ne (by omega))
    have hb : xBt F3 (b) ((bitsN (hLen w) ((ms r).2.2.2) ((ms r).2.2.1))) ((splB (hLen w) (hVal (hLen w)) ((ms r).2.2.2) ((ms r).2.2.1))) := xBt_fr hb (fun a9 q1 q2 => by rw [← e3]; exact xup_ne (by omega))
    have h1 : xCd F3 ((s + 1)) (w) ((hLen w)) ((hVal (hLen w))) ((hOrd (hLen w))) ((hSum w)) := xCd_fr h1 (fun a9 q1 q2 => by rw [← e3]; exact xup_ne (by omega))
    have h3 : xQp F3 ((s + 10)) (k - 1) (nx) ((fun i9 => p (shI r k i9))) ((fun i9 => m (shI r k i9))) := xQp_fr h3 (fun a9 q1 q2 => by rw [← e3]; exact xup_ne (by omega))
    have hag : ∀ a9 : Nat, (a9 < s ∨ s + 49 ≤ a9) → (a9 < b ∨ b + 2 ≤ a9) → F3 a9 = F a9 := fun a9 q0 q1 => by rw [← e3]; exact (xup_ne (by omega)).trans (hag a9 q0 q1)
    refine x_aload_n hC d_State_sendFirst_50 rfl rfl ?_
    refine x_getf hC kf_State_37 h0 rfl d_State_sendFirst_51 ?_
    refine x_callV hC kv_State_145 (c_Frame_bitTotal (hr := h4)) h4.1 rfl rfl (by decide) rfl rfl rfl (Nat.le_of_ble_eq_true rfl) (by decide) d_State_sendFirst_54 (fun r9 F9 z9 hp9 => ?_)
    obtain ⟨rfl, h9b, h9c⟩ := hp9
    rw [h9b, h9c]
    clear h9b h9c F9 z9
    refine hret _ _ _ _ _ _ _ d_State_sendFirst_57 (by decide) (by decide) rfl ?_
    have e9 : aSe (w, (dn, ds), (k, nx, ms), (fk, fb, ftn, fts, fw), (rn, rs), c1, c2, c3, c4) = (nI (nblk w (ms r) * 7), aRm (aFr (w, (dn, ds), (k, nx, ms), (fk, fb, ftn, fts, fw), (rn, rs), c1, c2, c3, c4) (ms r)) r) := by rw [hr]; exact if_pos (by rw [← hr]; exact hO_5)
    exact ⟨_, _, (congrArg (fun q => some (Value.int q)) (congrArg Prod.fst e9)).symm, rfl, by rw [e9]; exact ⟨h0, h1, h2, ⟨_, _, h3, fun i hi => hms _ (shI_k hO_5 (Nat.lt_of_lt_of_le hi (Nat.sub_le k 1)))⟩, h4, h5⟩, hb, hag⟩
  · skip
    rw [if_neg hO_5]
    rw [rankAt_ext hms] at hO_5
    refine x_astore_nN hC d_State_sendFirst_8 rfl (Nat.le_of_ble_eq_true rfl) (L1 := [some (.ref s), some (.ref b), some (.null)]) rfl ?_
    refine x_aload_nN hC d_State_sendFirst_9 rfl rfl ?_
    refine x_ifnonnullN hC d_State_sendFirst_10 ?_
    refine x_bipush hC d_State_sendFirst_13 (v := -3) (by decide) ?_
    refine hret _ _ _ _ _ _ _ d_State_sendFirst_15 (by decide) (by decide) rfl ?_
    have e9 : aSe (w, (dn, ds), (k, nx, ms), (fk, fb, ftn, fts, fw), (rn, rs), c1, c2, c3, c4) = (-3, (w, (dn, ds), (k, nx, ms), (fk, fb, ftn, fts, fw), (rn, rs), c1, c2, c3, c4)) := if_neg hO_5
    exact ⟨_, _, (congrArg (fun q => some (Value.int q)) (congrArg Prod.fst e9)).symm, rfl, by rw [e9]; exact ⟨h0, h1, h2, ⟨p, m, h3, hms⟩, h4, h5⟩, hb, hag⟩

theorem d_State_flipBit_0 : decode prog_11_method_11_code 0 = .ok (.aload_n 0, 1) := by decide +kernel
theorem d_State_flipBit_1 : decode prog_11_method_11_code 1 = .ok (.getfield 37, 3) := by decide +kernel
theorem d_State_flipBit_4 : decode prog_11_method_11_code 4 = .ok (.iload_n 1, 1) := by decide +kernel
theorem d_State_flipBit_5 : decode prog_11_method_11_code 5 = .ok (.invokevirtual 148, 3) := by decide +kernel
theorem d_State_flipBit_8 : decode prog_11_method_11_code 8 = .ok (.ifCond .ne 6, 3) := by decide +kernel
theorem d_State_flipBit_11 : decode prog_11_method_11_code 11 = .ok (.bipush (-4), 2) := by decide +kernel
theorem d_State_flipBit_13 : decode prog_11_method_11_code 13 = .ok (.ireturn, 1) := by decide +kernel
theorem d_State_flipBit_14 : decode prog_11_method_11_code 14 = .ok (.aload_n 0, 1) := by decide +kernel
theorem d_State_flipBit_15 : decode prog_11_method_11_code 15 = .ok (.getfield 37, 3) := by decide +kernel
theorem d_State_flipBit_18 : decode prog_11_method_11_code 18 = .ok (.iload_n 1, 1) := by decide +kernel
theorem d_State_flipBit_19 : decode prog_11_method_11_code 19 = .ok (.invokevirtual 151, 3) := by decide +kernel
theorem d_State_flipBit_22 : decode prog_11_method_11_code 22 = .ok (.aload_n 0, 1) := by decide +kernel
theorem d_State_flipBit_23 : decode prog_11_method_11_code 23 = .ok (.getfield 37, 3) := by decide +kernel
theorem d_State_flipBit_26 : decode prog_11_method_11_code 26 = .ok (.invokevirtual 154, 3) := by decide +kernel
theorem d_State_flipBit_29 : decode prog_11_method_11_code 29 = .ok (.ireturn, 1) := by decide +kernel
set_option maxHeartbeats 4000000 in
set_option maxRecDepth 20000 in
theorem c_State_flipBit {P : xP} {F : xF} {z : Nat} {s : Nat} {A : aS} {i : Int32} (hs : xSt F (s) (A))  : xM P xy_State_flipBit [.ref s, .int i] F (z) 0 0 (fun r9 F9 z9 => r9 = some (.int ((aFl A i).1)) ∧ z9 = z ∧ xSt F9 (s) ((aFl A i).2) ∧ (∀ a9 : Nat, (a9 < s ∨ s + 49 ≤ a9) → F9 a9 = F a9)) := by
  refine xM_i .int rfl (Nat.le_of_ble_eq_true rfl) (L0 := [some (.ref s), some (.int i)]) rfl rfl fun Θ hC hret => ?_
  have hag : ∀ a9 : Nat, (a9 < s ∨ s + 49 ≤ a9) → F a9 = F a9 := fun a9 _ => rfl
  obtain ⟨w, ⟨dn, ds⟩, ⟨k, nx, ms⟩, ⟨fk, fb, ftn, fts, fw⟩, ⟨rn, rs⟩, c1, c2, c3, c4⟩ := A
  obtain ⟨h0, h1, h2, ⟨p, m, h3, hms⟩, h4, h5⟩ := id hs
  have hms : ∀ i, i < k → m i = ms i := hms
  have h0 : F (s) = some (.inl (7, [.ref (s + 1), .ref (s + 8), .ref (s + 10), .ref (s + 36), .ref (s + 47), .int (nI (c1)), .int (nI (c2)), .int (nI (c3)), .int (nI (c4))])) := h0
  have h1 : xCd F (s + 1) (w) ((hLen w)) ((hVal (hLen w))) ((hOrd (hLen w))) ((hSum w)) := h1
  have h2 : xTx F (s + 8) (16) (dn) (ds) := h2
  have h3 : xQp F (s + 10) (k) (nx) (p) (m) := h3
  have h4 : xFr F (s + 36) (fk) (fb) (ftn) (fts) (fw) := h4
  have h5 : xTx F (s + 47) (16) (rn) (rs) := h5
  have hk8 : k ≤ 8 := h3.2.1.1
  have hfk8 : fk ≤ 28 := h4.2.1.1
  refine x_aload_n hC d_State_flipBit_0 rfl rfl ?_
  refine x_getf hC kf_State_37 h0 rfl d_State_flipBit_1 ?_
  refine x_iload_n hC d_State_flipBit_4 rfl rfl ?_
  refine x_callV hC kv_State_148 (c_Frame_hasBit (hr := h4)) h4.1 rfl rfl (by decide) rfl rfl rfl (Nat.le_of_ble_eq_true rfl) (by decide) d_State_flipBit_5 (fun r9 F9 z9 hp9 => ?_)
  obtain ⟨rfl, h9b, h9c⟩ := hp9
  rw [h9b, h9c]
  clear h9b h9c F9 z9
  refine x_ifB_ne hC d_State_flipBit_8 (tgt := 14) (by decide) (fun c_8 => ?_) (fun c_8 => ?_)
  · skip
    have hi0 := i2n_of c_8.1
    have hi1 : i.toNatClampNeg < fk * 7 := i2n_lt c_8.1 c_8.2 (by omega)
    refine x_aload_n hC d_State_flipBit_14 rfl rfl ?_
    refine x_getf hC kf_State_37 h0 rfl d_State_flipBit_15 ?_
    refine x_iload_n hC d_State_flipBit_18 rfl rfl ?_
    refine x_top (v := (nI (i.toNatClampNeg))) hi0 ?_
    refine x_callV hC kv_State_151 (c_Frame_turnBit (hr := h4) (hi := by omega)) h4.1 rfl rfl (by decide) rfl rfl rfl (Nat.le_of_ble_eq_true rfl) (by decide) d_State_flipBit_19 (fun r9 F9 z9 hp9 => ?_)
    obtain ⟨rfl, h9c, j0, hag9⟩ := hp9
    rw [h9c]
    clear h9c z9
    generalize F9 = F1 at *
    have h0 : F1 (s) = some (.inl (7, [.ref (s + 1), .ref (s + 8), .ref (s + 10), .ref (s + 36), .ref (s + 47), .int (nI (c1)), .int (nI (c2)), .int (nI (c3)), .int (nI (c4))])) := (hag9 _ (by omega)).trans h0
    have h1 : xCd F1 (s + 1) (w) ((hLen w)) ((hVal (hLen w))) ((hOrd (hLen w))) ((hSum w)) := xCd_fr h1 (fun a9 q1 q2 => hag9 a9 (by omega))
    have h2 : xTx F1 (s + 8) (16) (dn) (ds) := xTx_fr h2 (fun a9 q1 q2 => hag9 a9 (by omega))
    have h3 : xQp F1 (s + 10) (k) (nx) (p) (m) := xQp_fr h3 (fun a9 q1 q2 => hag9 a9 (by omega))
    have h5 : xTx F1 (s + 47) (16) (rn) (rs) := xTx_fr h5 (fun a9 q1 q2 => hag9 a9 (by omega))
    have h4 : xFr F1 ((s + 36)) (fk) ((updN fb ((i.toNatClampNeg) / 7) (fb ((i.toNatClampNeg) / 7) ^^^ 2 ^ (7 - ((i.toNatClampNeg) % 7 + 1))))) (ftn) (fts) (fw) := j0
    have hag : ∀ a9 : Nat, (a9 < s ∨ s + 49 ≤ a9) → F1 a9 = F a9 := fun a9 q0 => (hag9 a9 (by omega)).trans (hag a9 q0)
    have hg_19 := hag9
    clear hag9
    refine x_aload_n hC d_State_flipBit_22 rfl rfl ?_
    refine x_getf hC kf_State_37 h0 rfl d_State_flipBit_23 ?_
    refine x_callV hC kv_State_154 (c_Frame_damaged (hr := h4)) h4.1 rfl rfl (by decide) rfl rfl rfl (Nat.le_of_ble_eq_true rfl) (by decide) d_State_flipBit_26 (fun r9 F9 z9 hp9 => ?_)
    obtain ⟨rfl, h9b, h9c⟩ := hp9
    rw [h9b, h9c]
    clear h9b h9c F9 z9
    refine hret _ _ _ _ _ _ _ d_State_flipBit_29 (by decide) (by decide) rfl ?_
    have e9 : aFl (w, (dn, ds), (k, nx, ms), (fk, fb, ftn, fts, fw), (rn, rs), c1, c2, c3, c4) i = (nI (dmgN (flpB fb i.toNatClampNeg) fk), (w, (dn, ds), (k, nx, ms), (fk, flpB fb i.toNatClampNeg, ftn, fts, fw), (rn, rs), c1, c2, c3, c4)) := if_pos c_8
    exact ⟨(congrArg (fun q => some (Value.int q)) (congrArg Prod.fst e9)).symm, rfl, by rw [e9]; exact ⟨h0, h1, h2, ⟨p, m, h3, hms⟩, h4, h5⟩, hag⟩
  · skip
    refine x_bipush hC d_State_flipBit_11 (v := -4) (by decide) ?_
    refine hret _ _ _ _ _ _ _ d_State_flipBit_13 (by decide) (by decide) rfl ?_
    have e9 : aFl (w, (dn, ds), (k, nx, ms), (fk, fb, ftn, fts, fw), (rn, rs), c1, c2, c3, c4) i = (-4, (w, (dn, ds), (k, nx, ms), (fk, fb, ftn, fts, fw), (rn, rs), c1, c2, c3, c4)) := if_neg c_8
    exact ⟨(congrArg (fun q => some (Value.int q)) (congrArg Prod.fst e9)).symm, rfl, by rw [e9]; exact ⟨h0, h1, h2, ⟨p, m, h3, hms⟩, h4, h5⟩, hag⟩

theorem d_State_receiveFrame_0 : decode prog_11_method_12_code 0 = .ok (.aload_n 0, 1) := by decide +kernel
theorem d_State_receiveFrame_1 : decode prog_11_method_12_code 1 = .ok (.getfield 37, 3) := by decide +kernel
theorem d_State_receiveFrame_4 : decode prog_11_method_12_code 4 = .ok (.invokevirtual 157, 3) := by decide +kernel
theorem d_State_receiveFrame_7 : decode prog_11_method_12_code 7 = .ok (.ifCond .ne 6, 3) := by decide +kernel
theorem d_State_receiveFrame_10 : decode prog_11_method_12_code 10 = .ok (.bipush (-3), 2) := by decide +kernel
theorem d_State_receiveFrame_12 : decode prog_11_method_12_code 12 = .ok (.ireturn, 1) := by decide +kernel
theorem d_State_receiveFrame_13 : decode prog_11_method_12_code 13 = .ok (.aload_n 0, 1) := by decide +kernel
theorem d_State_receiveFrame_14 : decode prog_11_method_12_code 14 = .ok (.getfield 37, 3) := by decide +kernel
theorem d_State_receiveFrame_17 : decode prog_11_method_12_code 17 = .ok (.invokevirtual 154, 3) := by decide +kernel
theorem d_State_receiveFrame_20 : decode prog_11_method_12_code 20 = .ok (.istore_n 1, 1) := by decide +kernel
theorem d_State_receiveFrame_21 : decode prog_11_method_12_code 21 = .ok (.aload_n 0, 1) := by decide +kernel
theorem d_State_receiveFrame_22 : decode prog_11_method_12_code 22 = .ok (.getfield 37, 3) := by decide +kernel
theorem d_State_receiveFrame_25 : decode prog_11_method_12_code 25 = .ok (.aload_n 0, 1) := by decide +kernel
theorem d_State_receiveFrame_26 : decode prog_11_method_12_code 26 = .ok (.getfield 41, 3) := by decide +kernel
theorem d_State_receiveFrame_29 : decode prog_11_method_12_code 29 = .ok (.invokevirtual 160, 3) := by decide +kernel
theorem d_State_receiveFrame_32 : decode prog_11_method_12_code 32 = .ok (.aload_n 0, 1) := by decide +kernel
theorem d_State_receiveFrame_33 : decode prog_11_method_12_code 33 = .ok (.dup, 1) := by decide +kernel
theorem d_State_receiveFrame_34 : decode prog_11_method_12_code 34 = .ok (.getfield 61, 3) := by decide +kernel
theorem d_State_receiveFrame_37 : decode prog_11_method_12_code 37 = .ok (.iconst 1, 1) := by decide +kernel
theorem d_State_receiveFrame_38 : decode prog_11_method_12_code 38 = .ok (.iadd, 1) := by decide +kernel
theorem d_State_receiveFrame_39 : decode prog_11_method_12_code 39 = .ok (.putfield 61, 3) := by decide +kernel
theorem d_State_receiveFrame_42 : decode prog_11_method_12_code 42 = .ok (.aload_n 0, 1) := by decide +kernel
theorem d_State_receiveFrame_43 : decode prog_11_method_12_code 43 = .ok (.dup, 1) := by decide +kernel
theorem d_State_receiveFrame_44 : decode prog_11_method_12_code 44 = .ok (.getfield 64, 3) := by decide +kernel
theorem d_State_receiveFrame_47 : decode prog_11_method_12_code 47 = .ok (.iload_n 1, 1) := by decide +kernel
theorem d_State_receiveFrame_48 : decode prog_11_method_12_code 48 = .ok (.iadd, 1) := by decide +kernel
theorem d_State_receiveFrame_49 : decode prog_11_method_12_code 49 = .ok (.putfield 64, 3) := by decide +kernel
theorem d_State_receiveFrame_52 : decode prog_11_method_12_code 52 = .ok (.aload_n 0, 1) := by decide +kernel
theorem d_State_receiveFrame_53 : decode prog_11_method_12_code 53 = .ok (.getfield 41, 3) := by decide +kernel
theorem d_State_receiveFrame_56 : decode prog_11_method_12_code 56 = .ok (.aload_n 0, 1) := by decide +kernel
theorem d_State_receiveFrame_57 : decode prog_11_method_12_code 57 = .ok (.getfield 37, 3) := by decide +kernel
theorem d_State_receiveFrame_60 : decode prog_11_method_12_code 60 = .ok (.getfield 163, 3) := by decide +kernel
theorem d_State_receiveFrame_63 : decode prog_11_method_12_code 63 = .ok (.invokevirtual 164, 3) := by decide +kernel
theorem d_State_receiveFrame_66 : decode prog_11_method_12_code 66 = .ok (.ifCond .ne 13, 3) := by decide +kernel
theorem d_State_receiveFrame_69 : decode prog_11_method_12_code 69 = .ok (.aload_n 0, 1) := by decide +kernel
theorem d_State_receiveFrame_70 : decode prog_11_method_12_code 70 = .ok (.dup, 1) := by decide +kernel
theorem d_State_receiveFrame_71 : decode prog_11_method_12_code 71 = .ok (.getfield 67, 3) := by decide +kernel
theorem d_State_receiveFrame_74 : decode prog_11_method_12_code 74 = .ok (.iconst 1, 1) := by decide +kernel
theorem d_State_receiveFrame_75 : decode prog_11_method_12_code 75 = .ok (.iadd, 1) := by decide +kernel
theorem d_State_receiveFrame_76 : decode prog_11_method_12_code 76 = .ok (.putfield 67, 3) := by decide +kernel
theorem d_State_receiveFrame_79 : decode prog_11_method_12_code 79 = .ok (.aload_n 0, 1) := by decide +kernel
theorem d_State_receiveFrame_80 : decode prog_11_method_12_code 80 = .ok (.getfield 37, 3) := by decide +kernel
theorem d_State_receiveFrame_83 : decode prog_11_method_12_code 83 = .ok (.invokevirtual 168, 3) := by decide +kernel
theorem d_State_receiveFrame_86 : decode prog_11_method_12_code 86 = .ok (.iload_n 1, 1) := by decide +kernel
theorem d_State_receiveFrame_87 : decode prog_11_method_12_code 87 = .ok (.ireturn, 1) := by decide +kernel
set_option maxHeartbeats 4000000 in
set_option maxRecDepth 20000 in
theorem c_State_receiveFrame {P : xP} {F : xF} {z : Nat} {s : Nat} {A : aS} (hs : xSt F (s) (A))  : xM P xy_State_receiveFrame [.ref s] F (z) 0 0 (fun r9 F9 z9 => r9 = some (.int ((aRe A).1)) ∧ z9 = z ∧ xSt F9 (s) ((aRe A).2) ∧ (∀ a9 : Nat, (a9 < s ∨ s + 49 ≤ a9) → F9 a9 = F a9)) := by
  refine xM_i .int rfl (Nat.le_of_ble_eq_true rfl) (L0 := [some (.ref s), none]) rfl rfl fun Θ hC hret => ?_
  have hag : ∀ a9 : Nat, (a9 < s ∨ s + 49 ≤ a9) → F a9 = F a9 := fun a9 _ => rfl
  obtain ⟨w, ⟨dn, ds⟩, ⟨k, nx, ms⟩, ⟨fk, fb, ftn, fts, fw⟩, ⟨rn, rs⟩, c1, c2, c3, c4⟩ := A
  obtain ⟨h0, h1, h2, ⟨p, m, h3, hms⟩, h4, h5⟩ := id hs
  have hms : ∀ i, i < k → m i = ms i := hms
  have h0 : F (s) = some (.inl (7, [.ref (s + 1), .ref (s + 8), .ref (s + 10), .ref (s + 36), .ref (s + 47), .int (nI (c1)), .int (nI (c2)), .int (nI (c3)), .int (nI (c4))])) := h0
  have h1 : xCd F (s + 1) (w) ((hLen w)) ((hVal (hLen w))) ((hOrd (hLen w))) ((hSum w)) := h1
  have h2 : xTx F (s + 8) (16) (dn) (ds) := h2
  have h3 : xQp F (s + 10) (k) (nx) (p) (m) := h3
  have h4 : xFr F (s + 36) (fk) (fb) (ftn) (fts) (fw) := h4
  have h5 : xTx F (s + 47) (16) (rn) (rs) := h5
  have hk8 : k ≤ 8 := h3.2.1.1
  have hfk8 : fk ≤ 28 := h4.2.1.1
  refine x_aload_n hC d_State_receiveFrame_0 rfl rfl ?_
  refine x_getf hC kf_State_37 h0 rfl d_State_receiveFrame_1 ?_
  refine x_callV hC kv_State_157 (c_Frame_exists (hr := h4)) h4.1 rfl rfl (by decide) rfl rfl rfl (Nat.le_of_ble_eq_true rfl) (by decide) d_State_receiveFrame_4 (fun r9 F9 z9 hp9 => ?_)
  obtain ⟨rfl, h9b, h9c⟩ := hp9
  rw [h9b, h9c]
  clear h9b h9c F9 z9
  refine x_ifB_ne hC d_State_receiveFrame_7 (tgt := 13) (by decide) (fun c_7 => ?_) (fun c_7 => ?_)
  · skip
    refine x_aload_n hC d_State_receiveFrame_13 rfl rfl ?_
    refine x_getf hC kf_State_37 h0 rfl d_State_receiveFrame_14 ?_
    refine x_callV hC kv_State_154 (c_Frame_damaged (hr := h4)) h4.1 rfl rfl (by decide) rfl rfl rfl (Nat.le_of_ble_eq_true rfl) (by decide) d_State_receiveFrame_17 (fun r9 F9 z9 hp9 => ?_)
    obtain ⟨rfl, h9b, h9c⟩ := hp9
    rw [h9b, h9c]
    clear h9b h9c F9 z9
    refine x_istore_n hC d_State_receiveFrame_20 rfl (Nat.le_of_ble_eq_true rfl) (L1 := [some (.ref s), some (.int (nI (dmgN fb fk)))]) rfl ?_
    refine x_aload_n hC d_State_receiveFrame_21 rfl rfl ?_
    refine x_getf hC kf_State_37 h0 rfl d_State_receiveFrame_22 ?_
    refine x_aload_n hC d_State_receiveFrame_25 rfl rfl ?_
    refine x_getf hC kf_State_41 h0 rfl d_State_receiveFrame_26 ?_
    refine x_callV hC kv_State_160 (c_Frame_decode (hr := h4) (ht := h5) (hd := by omega)) h4.1 rfl rfl (by decide) rfl rfl rfl (Nat.le_of_ble_eq_true rfl) (by decide) d_State_receiveFrame_29 (fun r9 F9 z9 hp9 => ?_)
    obtain ⟨rfl, h9c, j0, j1, hag9⟩ := hp9
    rw [h9c]
    clear h9c z9
    generalize F9 = F1 at *
    have h0 : F1 (s) = some (.inl (7, [.ref (s + 1), .ref (s + 8), .ref (s + 10), .ref (s + 36), .ref (s + 47), .int (nI (c1)), .int (nI (c2)), .int (nI (c3)), .int (nI (c4))])) := (hag9 _ (by omega)).trans h0
    have h1 : xCd F1 (s + 1) (w) ((hLen w)) ((hVal (hLen w))) ((hOrd (hLen w))) ((hSum w)) := xCd_fr h1 (fun a9 q1 q2 => hag9 a9 (by omega))
    have h2 : xTx F1 (s + 8) (16) (dn) (ds) := xTx_fr h2 (fun a9 q1 q2 => hag9 a9 (by omega))
    have h3 : xQp F1 (s + 10) (k) (nx) (p) (m) := xQp_fr h3 (fun a9 q1 q2 => hag9 a9 (by omega))
    have h5 : xTx F1 ((s + 47)) (16) ((decS (hLen fw) (hVal (hLen fw)) fb ftn (fk * 4)).2.2.1) ((decS (hLen fw) (hVal (hLen fw)) fb ftn (fk * 4)).2.2.2) := j0
    have h4 : xFr F1 ((s + 36)) (fk) (fb) (ftn) (fts) (fw) := j1
    have hag : ∀ a9 : Nat, (a9 < s ∨ s + 49 ≤ a9) → F1 a9 = F a9 := fun a9 q0 => (hag9 a9 (by omega)).trans (hag a9 q0)
    have hg_29 := hag9
    clear hag9
    refine x_aload_n hC d_State_receiveFrame_32 rfl rfl ?_
    refine x_dup hC d_State_receiveFrame_33 rfl ?_
    refine x_getf hC kf_State_61 h0 rfl d_State_receiveFrame_34 ?_
    refine x_iconst hC d_State_receiveFrame_37 (v := nI 1) (by decide) ?_
    refine x_iadd hC d_State_receiveFrame_38 (v := (nI (c2 + 1))) (x_addN (by omega)) ?_
    refine x_putf hC kf_State_61 h0 (Nat.le_of_ble_eq_true rfl) rfl rfl d_State_receiveFrame_39 (fs1 := [.ref (s + 1), .ref (s + 8), .ref (s + 10), .ref (s + 36), .ref (s + 47), .int (nI (c1)), .int (nI (c2 + 1)), .int (nI (c3)), .int (nI (c4))]) rfl ?_
    generalize e2 : xup F1 (s) (.inl (7, [.ref (s + 1), .ref (s + 8), .ref (s + 10), .ref (s + 36), .ref (s + 47), .int (nI (c1)), .int (nI (c2 + 1)), .int (nI (c3)), .int (nI (c4))])) = F2
    have h0 : F2 (s) = some (.inl (7, [.ref (s + 1), .ref (s + 8), .ref (s + 10), .ref (s + 36), .ref (s + 47), .int (nI (c1)), .int (nI (c2 + 1)), .int (nI (c3)), .int (nI (c4))])) := by rw [← e2]; exact xup_eq
    have h1 : xCd F2 (s + 1) (w) ((hLen w)) ((hVal (hLen w))) ((hOrd (hLen w))) ((hSum w)) := xCd_fr h1 (fun a9 q1 q2 => by rw [← e2]; exact xup_ne (by omega))
    have h2 : xTx F2 (s + 8) (16) (dn) (ds) := xTx_fr h2 (fun a9 q1 q2 => by rw [← e2]; exact xup_ne (by omega))
    have h3 : xQp F2 (s + 10) (k) (nx) (p) (m) := xQp_fr h3 (fun a9 q1 q2 => by rw [← e2]; exact xup_ne (by omega))
    have h5 : xTx F2 ((s + 47)) (16) ((decS (hLen fw) (hVal (hLen fw)) fb ftn (fk * 4)).2.2.1) ((decS (hLen fw) (hVal (hLen fw)) fb ftn (fk * 4)).2.2.2) := xTx_fr h5 (fun a9 q1 q2 => by rw [← e2]; exact xup_ne (by omega))
    have h4 : xFr F2 ((s + 36)) (fk) (fb) (ftn) (fts) (fw) := xFr_fr h4 (fun a9 q1 q2 => by rw [← e2]; exact xup_ne (by omega))
    have hag : ∀ a9 : Nat, (a9 < s ∨ s + 49 ≤ a9) → F2 a9 = F a9 := fun a9 q0 => by rw [← e2]; exact (xup_ne (by omega)).trans (hag a9 q0)
    refine x_aload_n hC d_State_receiveFrame_42 rfl rfl ?_
    refine x_dup hC d_State_receiveFrame_43 rfl ?_
    refine x_getf hC kf_State_64 h0 rfl d_State_receiveFrame_44 ?_
    refine x_iload_n hC d_State_receiveFrame_47 rfl rfl ?_
    refine x_iadd hC d_State_receiveFrame_48 (v := (nI ((c3) + (dmgN fb fk)))) (x_addN (by omega)) ?_
    refine x_putf hC kf_State_64 h0 (Nat.le_of_ble_eq_true rfl) rfl rfl d_State_receiveFrame_49 (fs1 := [.ref (s + 1), .ref (s + 8), .ref (s + 10), .ref (s + 36), .ref (s + 47), .int (nI (c1)), .int (nI (c2 + 1)), .int (nI ((c3) + (dmgN fb fk))), .int (nI (c4))]) rfl ?_
    generalize e3 : xup F2 (s) (.inl (7, [.ref (s + 1), .ref (s + 8), .ref (s + 10), .ref (s + 36), .ref (s + 47), .int (nI (c1)), .int (nI (c2 + 1)), .int (nI ((c3) + (dmgN fb fk))), .int (nI (c4))])) = F3
    have h0 : F3 (s) = some (.inl (7, [.ref (s + 1), .ref (s + 8), .ref (s + 10), .ref (s + 36), .ref (s + 47), .int (nI (c1)), .int (nI (c2 + 1)), .int (nI ((c3) + (dmgN fb fk))), .int (nI (c4))])) := by rw [← e3]; exact xup_eq
    have h1 : xCd F3 (s + 1) (w) ((hLen w)) ((hVal (hLen w))) ((hOrd (hLen w))) ((hSum w)) := xCd_fr h1 (fun a9 q1 q2 => by rw [← e3]; exact xup_ne (by omega))
    have h2 : xTx F3 (s + 8) (16) (dn) (ds) := xTx_fr h2 (fun a9 q1 q2 => by rw [← e3]; exact xup_ne (by omega))
    have h3 : xQp F3 (s + 10) (k) (nx) (p) (m) := xQp_fr h3 (fun a9 q1 q2 => by rw [← e3]; exact xup_ne (by omega))
    have h5 : xTx F3 ((s + 47)) (16) ((decS (hLen fw) (hVal (hLen fw)) fb ftn (fk * 4)).2.2.1) ((decS (hLen fw) (hVal (hLen fw)) fb ftn (fk * 4)).2.2.2) := xTx_fr h5 (fun a9 q1 q2 => by rw [← e3]; exact xup_ne (by omega))
    have h4 : xFr F3 ((s + 36)) (fk) (fb) (ftn) (fts) (fw) := xFr_fr h4 (fun a9 q1 q2 => by rw [← e3]; exact xup_ne (by omega))
    have hag : ∀ a9 : Nat, (a9 < s ∨ s + 49 ≤ a9) → F3 a9 = F a9 := fun a9 q0 => by rw [← e3]; exact (xup_ne (by omega)).trans (hag a9 q0)
    refine x_aload_n hC d_State_receiveFrame_52 rfl rfl ?_
    refine x_getf hC kf_State_41 h0 rfl d_State_receiveFrame_53 ?_
    refine x_aload_n hC d_State_receiveFrame_56 rfl rfl ?_
    refine x_getf hC kf_State_37 h0 rfl d_State_receiveFrame_57 ?_
    refine x_getf hC kf_State_163 h4.1 rfl d_State_receiveFrame_60 ?_
    refine x_callV hC kv_State_164 (c_Text_sameAs (ht := h5) (ho := h4.2.2.2.1)) h5.1 rfl rfl (by decide) rfl rfl rfl (Nat.le_of_ble_eq_true rfl) (by decide) d_State_receiveFrame_63 (fun r9 F9 z9 hp9 => ?_)
    obtain ⟨rfl, h9b, h9c⟩ := hp9
    rw [h9b, h9c]
    clear h9b h9c F9 z9
    refine x_ifB_ne hC d_State_receiveFrame_66 (tgt := 79) (by decide) (fun c_66 => ?_) (fun c_66 => ?_)
    · skip
      refine x_aload_n hC d_State_receiveFrame_79 rfl rfl ?_
      refine x_getf hC kf_State_37 h0 rfl d_State_receiveFrame_80 ?_
      refine x_callV hC kv_State_168 (c_Frame_remove (hr := h4)) h4.1 rfl rfl (by decide) rfl rfl rfl (Nat.le_of_ble_eq_true rfl) (by decide) d_State_receiveFrame_83 (fun r9 F9 z9 hp9 => ?_)
      obtain ⟨rfl, h9c, j0, hag9⟩ := hp9
      rw [h9c]
      clear h9c z9
      generalize F9 = F4 at *
      have h0 : F4 (s) = some (.inl (7, [.ref (s + 1), .ref (s + 8), .ref (s + 10), .ref (s + 36), .ref (s + 47), .int (nI (c1)), .int (nI (c2 + 1)), .int (nI ((c3) + (dmgN fb fk))), .int (nI (c4))])) := (hag9 _ (by omega)).trans h0
      have h1 : xCd F4 (s + 1) (w) ((hLen w)) ((hVal (hLen w))) ((hOrd (hLen w))) ((hSum w)) := xCd_fr h1 (fun a9 q1 q2 => hag9 a9 (by omega))
      have h2 : xTx F4 (s + 8) (16) (dn) (ds) := xTx_fr h2 (fun a9 q1 q2 => hag9 a9 (by omega))
      have h3 : xQp F4 (s + 10) (k) (nx) (p) (m) := xQp_fr h3 (fun a9 q1 q2 => hag9 a9 (by omega))
      have h5 : xTx F4 ((s + 47)) (16) ((decS (hLen fw) (hVal (hLen fw)) fb ftn (fk * 4)).2.2.1) ((decS (hLen fw) (hVal (hLen fw)) fb ftn (fk * 4)).2.2.2) := xTx_fr h5 (fun a9 q1 q2 => hag9 a9 (by omega))
      have h4 : xFr F4 ((s + 36)) (0) (fb) (ftn) (fts) (fw) := j0
      have hag : ∀ a9 : Nat, (a9 < s ∨ s + 49 ≤ a9) → F4 a9 = F a9 := fun a9 q0 => (hag9 a9 (by omega)).trans (hag a9 q0)
      have hg_83 := hag9
      clear hag9
      refine x_iload_n hC d_State_receiveFrame_86 rfl rfl ?_
      refine hret _ _ _ _ _ _ _ d_State_receiveFrame_87 (by decide) (by decide) rfl ?_
      have e9 : aRe (w, (dn, ds), (k, nx, ms), (fk, fb, ftn, fts, fw), (rn, rs), c1, c2, c3, c4) = (nI (dmgN fb fk), (w, (dn, ds), (k, nx, ms), (0, fb, ftn, fts, fw), ((decS (hLen fw) (hVal (hLen fw)) fb ftn (fk * 4)).2.2.1, (decS (hLen fw) (hVal (hLen fw)) fb ftn (fk * 4)).2.2.2), c1, c2 + 1, c3 + dmgN fb fk, c4)) := (if_pos c_7).trans (congrArg (fun q : Nat => ((nI (dmgN fb fk), (w, (dn, ds), (k, nx, ms), (0, fb, ftn, fts, fw), ((decS (hLen fw) (hVal (hLen fw)) fb ftn (fk * 4)).2.2.1, (decS (hLen fw) (hVal (hLen fw)) fb ftn (fk * 4)).2.2.2), c1, c2 + 1, c3 + dmgN fb fk, q)) : Int32 × aS)) (if_pos c_66))
      exact ⟨(congrArg (fun q => some (Value.int q)) (congrArg Prod.fst e9)).symm, rfl, by rw [e9]; exact ⟨h0, h1, h2, ⟨p, m, h3, hms⟩, h4, h5⟩, hag⟩
    · skip
      refine x_aload_n hC d_State_receiveFrame_69 rfl rfl ?_
      refine x_dup hC d_State_receiveFrame_70 rfl ?_
      refine x_getf hC kf_State_67 h0 rfl d_State_receiveFrame_71 ?_
      refine x_iconst hC d_State_receiveFrame_74 (v := nI 1) (by decide) ?_
      refine x_iadd hC d_State_receiveFrame_75 (v := (nI (c4 + 1))) (x_addN (by omega)) ?_
      refine x_putf hC kf_State_67 h0 (Nat.le_of_ble_eq_true rfl) rfl rfl d_State_receiveFrame_76 (fs1 := [.ref (s + 1), .ref (s + 8), .ref (s + 10), .ref (s + 36), .ref (s + 47), .int (nI (c1)), .int (nI (c2 + 1)), .int (nI ((c3) + (dmgN fb fk))), .int (nI (c4 + 1))]) rfl ?_
      generalize e5 : xup F3 (s) (.inl (7, [.ref (s + 1), .ref (s + 8), .ref (s + 10), .ref (s + 36), .ref (s + 47), .int (nI (c1)), .int (nI (c2 + 1)), .int (nI ((c3) + (dmgN fb fk))), .int (nI (c4 + 1))])) = F5
      have h0 : F5 (s) = some (.inl (7, [.ref (s + 1), .ref (s + 8), .ref (s + 10), .ref (s + 36), .ref (s + 47), .int (nI (c1)), .int (nI (c2 + 1)), .int (nI ((c3) + (dmgN fb fk))), .int (nI (c4 + 1))])) := by rw [← e5]; exact xup_eq
      have h1 : xCd F5 (s + 1) (w) ((hLen w)) ((hVal (hLen w))) ((hOrd (hLen w))) ((hSum w)) := xCd_fr h1 (fun a9 q1 q2 => by rw [← e5]; exact xup_ne (by omega))
      have h2 : xTx F5 (s + 8) (16) (dn) (ds) := xTx_fr h2 (fun a9 q1 q2 => by rw [← e5]; exact xup_ne (by omega))
      have h3 : xQp F5 (s + 10) (k) (nx) (p) (m) := xQp_fr h3 (fun a9 q1 q2 => by rw [← e5]; exact xup_ne (by omega))
      have h5 : xTx F5 ((s + 47)) (16) ((decS (hLen fw) (hVal (hLen fw)) fb ftn (fk * 4)).2.2.1) ((decS (hLen fw) (hVal (hLen fw)) fb ftn (fk * 4)).2.2.2) := xTx_fr h5 (fun a9 q1 q2 => by rw [← e5]; exact xup_ne (by omega))
      have h4 : xFr F5 ((s + 36)) (fk) (fb) (ftn) (fts) (fw) := xFr_fr h4 (fun a9 q1 q2 => by rw [← e5]; exact xup_ne (by omega))
      have hag : ∀ a9 : Nat, (a9 < s ∨ s + 49 ≤ a9) → F5 a9 = F a9 := fun a9 q0 => by rw [← e5]; exact (xup_ne (by omega)).trans (hag a9 q0)
      refine x_aload_n hC d_State_receiveFrame_79 rfl rfl ?_
      refine x_getf hC kf_State_37 h0 rfl d_State_receiveFrame_80 ?_
      refine x_callV hC kv_State_168 (c_Frame_remove (hr := h4)) h4.1 rfl rfl (by decide) rfl rfl rfl (Nat.le_of_ble_eq_true rfl) (by decide) d_State_receiveFrame_83 (fun r9 F9 z9 hp9 => ?_)
      obtain ⟨rfl, h9c, j0, hag9⟩ := hp9
      rw [h9c]
      clear h9c z9
      generalize F9 = F6 at *
      have h0 : F6 (s) = some (.inl (7, [.ref (s + 1), .ref (s + 8), .ref (s + 10), .ref (s + 36), .ref (s + 47), .int (nI (c1)), .int (nI (c2 + 1)), .int (nI ((c3) + (dmgN fb fk))), .int (nI (c4 + 1))])) := (hag9 _ (by omega)).trans h0
      have h1 : xCd F6 (s + 1) (w) ((hLen w)) ((hVal (hLen w))) ((hOrd (hLen w))) ((hSum w)) := xCd_fr h1 (fun a9 q1 q2 => hag9 a9 (by omega))
      have h2 : xTx F6 (s + 8) (16) (dn) (ds) := xTx_fr h2 (fun a9 q1 q2 => hag9 a9 (by omega))
      have h3 : xQp F6 (s + 10) (k) (nx) (p) (m) := xQp_fr h3 (fun a9 q1 q2 => hag9 a9 (by omega))
      have h5 : xTx F6 ((s + 47)) (16) ((decS (hLen fw) (hVal (hLen fw)) fb ftn (fk * 4)).2.2.1) ((decS (hLen fw) (hVal (hLen fw)) fb ftn (fk * 4)).2.2.2) := xTx_fr h5 (fun a9 q1 q2 => hag9 a9 (by omega))
      have h4 : xFr F6 ((s + 36)) (0) (fb) (ftn) (fts) (fw) := j0
      have hag : ∀ a9 : Nat, (a9 < s ∨ s + 49 ≤ a9) → F6 a9 = F a9 := fun a9 q0 => (hag9 a9 (by omega)).trans (hag a9 q0)
      have hg_83 := hag9
      clear hag9
      refine x_iload_n hC d_State_receiveFrame_86 rfl rfl ?_
      refine hret _ _ _ _ _ _ _ d_State_receiveFrame_87 (by decide) (by decide) rfl ?_
      have e9 : aRe (w, (dn, ds), (k, nx, ms), (fk, fb, ftn, fts, fw), (rn, rs), c1, c2, c3, c4) = (nI (dmgN fb fk), (w, (dn, ds), (k, nx, ms), (0, fb, ftn, fts, fw), ((decS (hLen fw) (hVal (hLen fw)) fb ftn (fk * 4)).2.2.1, (decS (hLen fw) (hVal (hLen fw)) fb ftn (fk * 4)).2.2.2), c1, c2 + 1, c3 + dmgN fb fk, c4 + 1)) := (if_pos c_7).trans (congrArg (fun q : Nat => ((nI (dmgN fb fk), (w, (dn, ds), (k, nx, ms), (0, fb, ftn, fts, fw), ((decS (hLen fw) (hVal (hLen fw)) fb ftn (fk * 4)).2.2.1, (decS (hLen fw) (hVal (hLen fw)) fb ftn (fk * 4)).2.2.2), c1, c2 + 1, c3 + dmgN fb fk, q)) : Int32 × aS)) (if_neg c_66))
      exact ⟨(congrArg (fun q => some (Value.int q)) (congrArg Prod.fst e9)).symm, rfl, by rw [e9]; exact ⟨h0, h1, h2, ⟨p, m, h3, hms⟩, h4, h5⟩, hag⟩
  · skip
    refine x_bipush hC d_State_receiveFrame_10 (v := -3) (by decide) ?_
    refine hret _ _ _ _ _ _ _ d_State_receiveFrame_12 (by decide) (by decide) rfl ?_
    have e9 : aRe (w, (dn, ds), (k, nx, ms), (fk, fb, ftn, fts, fw), (rn, rs), c1, c2, c3, c4) = (-3, (w, (dn, ds), (k, nx, ms), (fk, fb, ftn, fts, fw), (rn, rs), c1, c2, c3, c4)) := if_neg c_7
    exact ⟨(congrArg (fun q => some (Value.int q)) (congrArg Prod.fst e9)).symm, rfl, by rw [e9]; exact ⟨h0, h1, h2, ⟨p, m, h3, hms⟩, h4, h5⟩, hag⟩

theorem d_State_copyFrom_0 : decode prog_11_method_2_code 0 = .ok (.aload_n 0, 1) := by decide +kernel
theorem d_State_copyFrom_1 : decode prog_11_method_2_code 1 = .ok (.getfield 12, 3) := by decide +kernel
theorem d_State_copyFrom_4 : decode prog_11_method_2_code 4 = .ok (.aload_n 1, 1) := by decide +kernel
theorem d_State_copyFrom_5 : decode prog_11_method_2_code 5 = .ok (.getfield 12, 3) := by decide +kernel
theorem d_State_copyFrom_8 : decode prog_11_method_2_code 8 = .ok (.invokevirtual 44, 3) := by decide +kernel
theorem d_State_copyFrom_11 : decode prog_11_method_2_code 11 = .ok (.aload_n 0, 1) := by decide +kernel
theorem d_State_copyFrom_12 : decode prog_11_method_2_code 12 = .ok (.getfield 23, 3) := by decide +kernel
theorem d_State_copyFrom_15 : decode prog_11_method_2_code 15 = .ok (.aload_n 1, 1) := by decide +kernel
theorem d_State_copyFrom_16 : decode prog_11_method_2_code 16 = .ok (.getfield 23, 3) := by decide +kernel
theorem d_State_copyFrom_19 : decode prog_11_method_2_code 19 = .ok (.invokevirtual 48, 3) := by decide +kernel
theorem d_State_copyFrom_22 : decode prog_11_method_2_code 22 = .ok (.aload_n 0, 1) := by decide +kernel
theorem d_State_copyFrom_23 : decode prog_11_method_2_code 23 = .ok (.getfield 30, 3) := by decide +kernel
theorem d_State_copyFrom_26 : decode prog_11_method_2_code 26 = .ok (.aload_n 1, 1) := by decide +kernel
theorem d_State_copyFrom_27 : decode prog_11_method_2_code 27 = .ok (.getfield 30, 3) := by decide +kernel
theorem d_State_copyFrom_30 : decode prog_11_method_2_code 30 = .ok (.invokevirtual 51, 3) := by decide +kernel
theorem d_State_copyFrom_33 : decode prog_11_method_2_code 33 = .ok (.aload_n 0, 1) := by decide +kernel
theorem d_State_copyFrom_34 : decode prog_11_method_2_code 34 = .ok (.getfield 37, 3) := by decide +kernel
theorem d_State_copyFrom_37 : decode prog_11_method_2_code 37 = .ok (.aload_n 1, 1) := by decide +kernel
theorem d_State_copyFrom_38 : decode prog_11_method_2_code 38 = .ok (.getfield 37, 3) := by decide +kernel
theorem d_State_copyFrom_41 : decode prog_11_method_2_code 41 = .ok (.invokevirtual 54, 3) := by decide +kernel
theorem d_State_copyFrom_44 : decode prog_11_method_2_code 44 = .ok (.aload_n 0, 1) := by decide +kernel
theorem d_State_copyFrom_45 : decode prog_11_method_2_code 45 = .ok (.getfield 41, 3) := by decide +kernel
theorem d_State_copyFrom_48 : decode prog_11_method_2_code 48 = .ok (.aload_n 1, 1) := by decide +kernel
theorem d_State_copyFrom_49 : decode prog_11_method_2_code 49 = .ok (.getfield 41, 3) := by decide +kernel
theorem d_State_copyFrom_52 : decode prog_11_method_2_code 52 = .ok (.invokevirtual 48, 3) := by decide +kernel
theorem d_State_copyFrom_55 : decode prog_11_method_2_code 55 = .ok (.aload_n 0, 1) := by decide +kernel
theorem d_State_copyFrom_56 : decode prog_11_method_2_code 56 = .ok (.aload_n 1, 1) := by decide +kernel
theorem d_State_copyFrom_57 : decode prog_11_method_2_code 57 = .ok (.getfield 57, 3) := by decide +kernel
theorem d_State_copyFrom_60 : decode prog_11_method_2_code 60 = .ok (.putfield 57, 3) := by decide +kernel
theorem d_State_copyFrom_63 : decode prog_11_method_2_code 63 = .ok (.aload_n 0, 1) := by decide +kernel
theorem d_State_copyFrom_64 : decode prog_11_method_2_code 64 = .ok (.aload_n 1, 1) := by decide +kernel
theorem d_State_copyFrom_65 : decode prog_11_method_2_code 65 = .ok (.getfield 61, 3) := by decide +kernel
theorem d_State_copyFrom_68 : decode prog_11_method_2_code 68 = .ok (.putfield 61, 3) := by decide +kernel
theorem d_State_copyFrom_71 : decode prog_11_method_2_code 71 = .ok (.aload_n 0, 1) := by decide +kernel
theorem d_State_copyFrom_72 : decode prog_11_method_2_code 72 = .ok (.aload_n 1, 1) := by decide +kernel
theorem d_State_copyFrom_73 : decode prog_11_method_2_code 73 = .ok (.getfield 64, 3) := by decide +kernel
theorem d_State_copyFrom_76 : decode prog_11_method_2_code 76 = .ok (.putfield 64, 3) := by decide +kernel
theorem d_State_copyFrom_79 : decode prog_11_method_2_code 79 = .ok (.aload_n 0, 1) := by decide +kernel
theorem d_State_copyFrom_80 : decode prog_11_method_2_code 80 = .ok (.aload_n 1, 1) := by decide +kernel
theorem d_State_copyFrom_81 : decode prog_11_method_2_code 81 = .ok (.getfield 67, 3) := by decide +kernel
theorem d_State_copyFrom_84 : decode prog_11_method_2_code 84 = .ok (.putfield 67, 3) := by decide +kernel
theorem d_State_copyFrom_87 : decode prog_11_method_2_code 87 = .ok (.return_, 1) := by decide +kernel
set_option maxHeartbeats 4000000 in
set_option maxRecDepth 20000 in
theorem c_State_copyFrom {P : xP} {F : xF} {z : Nat} {s : Nat} {A : aS} {o : Nat} {B : aS} (hs : xSt F (s) (A)) (ho : xSt F (o) (B)) (hd : s + 49 ≤ o ∨ o + 49 ≤ s) : xM P xy_State_copyFrom [.ref s, .ref o] F (z) 0 0 (fun r9 F9 z9 => r9 = none ∧ z9 = z ∧ xSt F9 (s) (B) ∧ xSt F9 (o) (B) ∧ (∀ a9 : Nat, (a9 < s ∨ s + 49 ≤ a9) → F9 a9 = F a9)) := by
  refine xM_v rfl (Nat.le_of_ble_eq_true rfl) (L0 := [some (.ref s), some (.ref o)]) rfl rfl fun Θ hC hin hret => ?_
  have hag : ∀ a9 : Nat, (a9 < s ∨ s + 49 ≤ a9) → F a9 = F a9 := fun a9 _ => rfl
  obtain ⟨w, ⟨dn, ds⟩, ⟨k, nx, ms⟩, ⟨fk, fb, ftn, fts, fw⟩, ⟨rn, rs⟩, c1, c2, c3, c4⟩ := A
  obtain ⟨h0, h1, h2, ⟨p, m, h3, hms⟩, h4, h5⟩ := id hs
  have hms : ∀ i, i < k → m i = ms i := hms
  have h0 : F (s) = some (.inl (7, [.ref (s + 1), .ref (s + 8), .ref (s + 10), .ref (s + 36), .ref (s + 47), .int (nI (c1)), .int (nI (c2)), .int (nI (c3)), .int (nI (c4))])) := h0
  have h1 : xCd F (s + 1) (w) ((hLen w)) ((hVal (hLen w))) ((hOrd (hLen w))) ((hSum w)) := h1
  have h2 : xTx F (s + 8) (16) (dn) (ds) := h2
  have h3 : xQp F (s + 10) (k) (nx) (p) (m) := h3
  have h4 : xFr F (s + 36) (fk) (fb) (ftn) (fts) (fw) := h4
  have h5 : xTx F (s + 47) (16) (rn) (rs) := h5
  have hk8 : k ≤ 8 := h3.2.1.1
  obtain ⟨w2, ⟨dn2, ds2⟩, ⟨k2, nx2, ms2⟩, ⟨fk2, fb2, ftn2, fts2, fw2⟩, ⟨rn2, rs2⟩, d1, d2, d3, d4⟩ := B
  obtain ⟨m0, m1, m2, ⟨p2, m9, m3, hms2⟩, m4, m5⟩ := id ho
  have hms2 : ∀ i, i < k2 → m9 i = ms2 i := hms2
  have m0 : F (o) = some (.inl (7, [.ref (o + 1), .ref (o + 8), .ref (o + 10), .ref (o + 36), .ref (o + 47), .int (nI (d1)), .int (nI (d2)), .int (nI (d3)), .int (nI (d4))])) := m0
  have m1 : xCd F (o + 1) (w2) ((hLen w2)) ((hVal (hLen w2))) ((hOrd (hLen w2))) ((hSum w2)) := m1
  have m2 : xTx F (o + 8) (16) (dn2) (ds2) := m2
  have m3 : xQp F (o + 10) (k2) (nx2) (p2) (m9) := m3
  have m4 : xFr F (o + 36) (fk2) (fb2) (ftn2) (fts2) (fw2) := m4
  have m5 : xTx F (o + 47) (16) (rn2) (rs2) := m5
  refine x_aload_n hC d_State_copyFrom_0 rfl rfl ?_
  refine x_getf hC kf_State_12 h0 rfl d_State_copyFrom_1 ?_
  refine x_aload_n hC d_State_copyFrom_4 rfl rfl ?_
  refine x_getf hC kf_State_12 m0 rfl d_State_copyFrom_5 ?_
  refine x_callV hC kv_State_44 (c_Code_copyFrom (hc := h1) (ho := m1) (hd := by omega)) h1.1 rfl rfl (by decide) rfl rfl rfl (Nat.le_of_ble_eq_true rfl) (by decide) d_State_copyFrom_8 (fun r9 F9 z9 hp9 => ?_)
  obtain ⟨rfl, h9c, j0, j1, hag9⟩ := hp9
  rw [h9c]
  clear h9c z9
  generalize F9 = F1 at *
  have h0 : F1 (s) = some (.inl (7, [.ref (s + 1), .ref (s + 8), .ref (s + 10), .ref (s + 36), .ref (s + 47), .int (nI (c1)), .int (nI (c2)), .int (nI (c3)), .int (nI (c4))])) := (hag9 _ (by omega)).trans h0
  have h2 : xTx F1 (s + 8) (16) (dn) (ds) := xTx_fr h2 (fun a9 q1 q2 => hag9 a9 (by omega))
  have h3 : xQp F1 (s + 10) (k) (nx) (p) (m) := xQp_fr h3 (fun a9 q1 q2 => hag9 a9 (by omega))
  have h4 : xFr F1 (s + 36) (fk) (fb) (ftn) (fts) (fw) := xFr_fr h4 (fun a9 q1 q2 => hag9 a9 (by omega))
  have h5 : xTx F1 (s + 47) (16) (rn) (rs) := xTx_fr h5 (fun a9 q1 q2 => hag9 a9 (by omega))
  have m0 : F1 (o) = some (.inl (7, [.ref (o + 1), .ref (o + 8), .ref (o + 10), .ref (o + 36), .ref (o + 47), .int (nI (d1)), .int (nI (d2)), .int (nI (d3)), .int (nI (d4))])) := (hag9 _ (by omega)).trans m0
  have m2 : xTx F1 (o + 8) (16) (dn2) (ds2) := xTx_fr m2 (fun a9 q1 q2 => hag9 a9 (by omega))
  have m3 : xQp F1 (o + 10) (k2) (nx2) (p2) (m9) := xQp_fr m3 (fun a9 q1 q2 => hag9 a9 (by omega))
  have m4 : xFr F1 (o + 36) (fk2) (fb2) (ftn2) (fts2) (fw2) := xFr_fr m4 (fun a9 q1 q2 => hag9 a9 (by omega))
  have m5 : xTx F1 (o + 47) (16) (rn2) (rs2) := xTx_fr m5 (fun a9 q1 q2 => hag9 a9 (by omega))
  have h1 : xCd F1 ((s + 1)) (w2) ((hLen w2)) ((hVal (hLen w2))) ((hOrd (hLen w2))) ((hSum w2)) := j0
  have m1 : xCd F1 ((o + 1)) (w2) ((hLen w2)) ((hVal (hLen w2))) ((hOrd (hLen w2))) ((hSum w2)) := j1
  have hag : ∀ a9 : Nat, (a9 < s ∨ s + 49 ≤ a9) → F1 a9 = F a9 := fun a9 q0 => (hag9 a9 (by omega)).trans (hag a9 q0)
  have hg_8 := hag9
  clear hag9
  refine x_aload_n hC d_State_copyFrom_11 rfl rfl ?_
  refine x_getf hC kf_State_23 h0 rfl d_State_copyFrom_12 ?_
  refine x_aload_n hC d_State_copyFrom_15 rfl rfl ?_
  refine x_getf hC kf_State_23 m0 rfl d_State_copyFrom_16 ?_
  refine x_callV hC kv_State_48 (c_Text_copyFrom (ht := h2) (ho := m2) (hsz := m2.2.1.1) (hd := by omega)) h2.1 rfl rfl (by decide) rfl rfl rfl (Nat.le_of_ble_eq_true rfl) (by decide) d_State_copyFrom_19 (fun r9 F9 z9 hp9 => ?_)
  obtain ⟨rfl, h9c, j0, j1, hag9⟩ := hp9
  rw [h9c]
  clear h9c z9
  generalize F9 = F2 at *
  have h0 : F2 (s) = some (.inl (7, [.ref (s + 1), .ref (s + 8), .ref (s + 10), .ref (s + 36), .ref (s + 47), .int (nI (c1)), .int (nI (c2)), .int (nI (c3)), .int (nI (c4))])) := (hag9 _ (by omega)).trans h0
  have h3 : xQp F2 (s + 10) (k) (nx) (p) (m) := xQp_fr h3 (fun a9 q1 q2 => hag9 a9 (by omega))
  have h4 : xFr F2 (s + 36) (fk) (fb) (ftn) (fts) (fw) := xFr_fr h4 (fun a9 q1 q2 => hag9 a9 (by omega))
  have h5 : xTx F2 (s + 47) (16) (rn) (rs) := xTx_fr h5 (fun a9 q1 q2 => hag9 a9 (by omega))
  have m0 : F2 (o) = some (.inl (7, [.ref (o + 1), .ref (o + 8), .ref (o + 10), .ref (o + 36), .ref (o + 47), .int (nI (d1)), .int (nI (d2)), .int (nI (d3)), .int (nI (d4))])) := (hag9 _ (by omega)).trans m0
  have m3 : xQp F2 (o + 10) (k2) (nx2) (p2) (m9) := xQp_fr m3 (fun a9 q1 q2 => hag9 a9 (by omega))
  have m4 : xFr F2 (o + 36) (fk2) (fb2) (ftn2) (fts2) (fw2) := xFr_fr m4 (fun a9 q1 q2 => hag9 a9 (by omega))
  have m5 : xTx F2 (o + 47) (16) (rn2) (rs2) := xTx_fr m5 (fun a9 q1 q2 => hag9 a9 (by omega))
  have h1 : xCd F2 ((s + 1)) (w2) ((hLen w2)) ((hVal (hLen w2))) ((hOrd (hLen w2))) ((hSum w2)) := xCd_fr h1 (fun a9 q1 q2 => hag9 a9 (by omega))
  have m1 : xCd F2 ((o + 1)) (w2) ((hLen w2)) ((hVal (hLen w2))) ((hOrd (hLen w2))) ((hSum w2)) := xCd_fr m1 (fun a9 q1 q2 => hag9 a9 (by omega))
  have h2 : xTx F2 ((s + 8)) (16) (dn2) (ds2) := j0
  have m2 : xTx F2 ((o + 8)) (16) (dn2) (ds2) := j1
  have hag : ∀ a9 : Nat, (a9 < s ∨ s + 49 ≤ a9) → F2 a9 = F a9 := fun a9 q0 => (hag9 a9 (by omega)).trans (hag a9 q0)
  have hg_19 := hag9
  clear hag9
  refine x_aload_n hC d_State_copyFrom_22 rfl rfl ?_
  refine x_getf hC kf_State_30 h0 rfl d_State_copyFrom_23 ?_
  refine x_aload_n hC d_State_copyFrom_26 rfl rfl ?_
  refine x_getf hC kf_State_30 m0 rfl d_State_copyFrom_27 ?_
  refine x_callV hC kv_State_51 (c_Queue_copyFrom (hq := h3) (ho := m3) (hd := by omega)) h3.1 rfl rfl (by decide) rfl rfl rfl (Nat.le_of_ble_eq_true rfl) (by decide) d_State_copyFrom_30 (fun r9 F9 z9 hp9 => ?_)
  obtain ⟨rfl, h9c, j0, j1, hag9⟩ := hp9
  rw [h9c]
  clear h9c z9
  generalize F9 = F3 at *
  have h0 : F3 (s) = some (.inl (7, [.ref (s + 1), .ref (s + 8), .ref (s + 10), .ref (s + 36), .ref (s + 47), .int (nI (c1)), .int (nI (c2)), .int (nI (c3)), .int (nI (c4))])) := (hag9 _ (by omega)).trans h0
  have h4 : xFr F3 (s + 36) (fk) (fb) (ftn) (fts) (fw) := xFr_fr h4 (fun a9 q1 q2 => hag9 a9 (by omega))
  have h5 : xTx F3 (s + 47) (16) (rn) (rs) := xTx_fr h5 (fun a9 q1 q2 => hag9 a9 (by omega))
  have m0 : F3 (o) = some (.inl (7, [.ref (o + 1), .ref (o + 8), .ref (o + 10), .ref (o + 36), .ref (o + 47), .int (nI (d1)), .int (nI (d2)), .int (nI (d3)), .int (nI (d4))])) := (hag9 _ (by omega)).trans m0
  have m4 : xFr F3 (o + 36) (fk2) (fb2) (ftn2) (fts2) (fw2) := xFr_fr m4 (fun a9 q1 q2 => hag9 a9 (by omega))
  have m5 : xTx F3 (o + 47) (16) (rn2) (rs2) := xTx_fr m5 (fun a9 q1 q2 => hag9 a9 (by omega))
  have h1 : xCd F3 ((s + 1)) (w2) ((hLen w2)) ((hVal (hLen w2))) ((hOrd (hLen w2))) ((hSum w2)) := xCd_fr h1 (fun a9 q1 q2 => hag9 a9 (by omega))
  have m1 : xCd F3 ((o + 1)) (w2) ((hLen w2)) ((hVal (hLen w2))) ((hOrd (hLen w2))) ((hSum w2)) := xCd_fr m1 (fun a9 q1 q2 => hag9 a9 (by omega))
  have h2 : xTx F3 ((s + 8)) (16) (dn2) (ds2) := xTx_fr h2 (fun a9 q1 q2 => hag9 a9 (by omega))
  have m2 : xTx F3 ((o + 8)) (16) (dn2) (ds2) := xTx_fr m2 (fun a9 q1 q2 => hag9 a9 (by omega))
  have h3 : xQp F3 ((s + 10)) (k2) (nx2) (p) ((fun i9 => if i9 < k2 then m9 i9 else m i9)) := j0
  have m3 : xQp F3 ((o + 10)) (k2) (nx2) (p2) (m9) := j1
  have hag : ∀ a9 : Nat, (a9 < s ∨ s + 49 ≤ a9) → F3 a9 = F a9 := fun a9 q0 => (hag9 a9 (by omega)).trans (hag a9 q0)
  have hg_30 := hag9
  clear hag9
  refine x_aload_n hC d_State_copyFrom_33 rfl rfl ?_
  refine x_getf hC kf_State_37 h0 rfl d_State_copyFrom_34 ?_
  refine x_aload_n hC d_State_copyFrom_37 rfl rfl ?_
  refine x_getf hC kf_State_37 m0 rfl d_State_copyFrom_38 ?_
  refine x_callV hC kv_State_54 (c_Frame_copyFrom (hr := h4) (ho := m4) (hd := by omega)) h4.1 rfl rfl (by decide) rfl rfl rfl (Nat.le_of_ble_eq_true rfl) (by decide) d_State_copyFrom_41 (fun r9 F9 z9 hp9 => ?_)
  obtain ⟨rfl, h9c, j0, j1, hag9⟩ := hp9
  rw [h9c]
  clear h9c z9
  generalize F9 = F4 at *
  have h0 : F4 (s) = some (.inl (7, [.ref (s + 1), .ref (s + 8), .ref (s + 10), .ref (s + 36), .ref (s + 47), .int (nI (c1)), .int (nI (c2)), .int (nI (c3)), .int (nI (c4))])) := (hag9 _ (by omega)).trans h0
  have h5 : xTx F4 (s + 47) (16) (rn) (rs) := xTx_fr h5 (fun a9 q1 q2 => hag9 a9 (by omega))
  have m0 : F4 (o) = some (.inl (7, [.ref (o + 1), .ref (o + 8), .ref (o + 10), .ref (o + 36), .ref (o + 47), .int (nI (d1)), .int (nI (d2)), .int (nI (d3)), .int (nI (d4))])) := (hag9 _ (by omega)).trans m0
  have m5 : xTx F4 (o + 47) (16) (rn2) (rs2) := xTx_fr m5 (fun a9 q1 q2 => hag9 a9 (by omega))
  have h1 : xCd F4 ((s + 1)) (w2) ((hLen w2)) ((hVal (hLen w2))) ((hOrd (hLen w2))) ((hSum w2)) := xCd_fr h1 (fun a9 q1 q2 => hag9 a9 (by omega))
  have m1 : xCd F4 ((o + 1)) (w2) ((hLen w2)) ((hVal (hLen w2))) ((hOrd (hLen w2))) ((hSum w2)) := xCd_fr m1 (fun a9 q1 q2 => hag9 a9 (by omega))
  have h2 : xTx F4 ((s + 8)) (16) (dn2) (ds2) := xTx_fr h2 (fun a9 q1 q2 => hag9 a9 (by omega))
  have m2 : xTx F4 ((o + 8)) (16) (dn2) (ds2) := xTx_fr m2 (fun a9 q1 q2 => hag9 a9 (by omega))
  have h3 : xQp F4 ((s + 10)) (k2) (nx2) (p) ((fun i9 => if i9 < k2 then m9 i9 else m i9)) := xQp_fr h3 (fun a9 q1 q2 => hag9 a9 (by omega))
  have m3 : xQp F4 ((o + 10)) (k2) (nx2) (p2) (m9) := xQp_fr m3 (fun a9 q1 q2 => hag9 a9 (by omega))
  have h4 : xFr F4 ((s + 36)) (fk2) (fb2) (ftn2) (fts2) (fw2) := j0
  have m4 : xFr F4 ((o + 36)) (fk2) (fb2) (ftn2) (fts2) (fw2) := j1
  have hag : ∀ a9 : Nat, (a9 < s ∨ s + 49 ≤ a9) → F4 a9 = F a9 := fun a9 q0 => (hag9 a9 (by omega)).trans (hag a9 q0)
  have hg_41 := hag9
  clear hag9
  refine x_aload_n hC d_State_copyFrom_44 rfl rfl ?_
  refine x_getf hC kf_State_41 h0 rfl d_State_copyFrom_45 ?_
  refine x_aload_n hC d_State_copyFrom_48 rfl rfl ?_
  refine x_getf hC kf_State_41 m0 rfl d_State_copyFrom_49 ?_
  refine x_callV hC kv_State_48 (c_Text_copyFrom (ht := h5) (ho := m5) (hsz := m5.2.1.1) (hd := by omega)) h5.1 rfl rfl (by decide) rfl rfl rfl (Nat.le_of_ble_eq_true rfl) (by decide) d_State_copyFrom_52 (fun r9 F9 z9 hp9 => ?_)
  obtain ⟨rfl, h9c, j0, j1, hag9⟩ := hp9
  rw [h9c]
  clear h9c z9
  generalize F9 = F5 at *
  have h0 : F5 (s) = some (.inl (7, [.ref (s + 1), .ref (s + 8), .ref (s + 10), .ref (s + 36), .ref (s + 47), .int (nI (c1)), .int (nI (c2)), .int (nI (c3)), .int (nI (c4))])) := (hag9 _ (by omega)).trans h0
  have m0 : F5 (o) = some (.inl (7, [.ref (o + 1), .ref (o + 8), .ref (o + 10), .ref (o + 36), .ref (o + 47), .int (nI (d1)), .int (nI (d2)), .int (nI (d3)), .int (nI (d4))])) := (hag9 _ (by omega)).trans m0
  have h1 : xCd F5 ((s + 1)) (w2) ((hLen w2)) ((hVal (hLen w2))) ((hOrd (hLen w2))) ((hSum w2)) := xCd_fr h1 (fun a9 q1 q2 => hag9 a9 (by omega))
  have m1 : xCd F5 ((o + 1)) (w2) ((hLen w2)) ((hVal (hLen w2))) ((hOrd (hLen w2))) ((hSum w2)) := xCd_fr m1 (fun a9 q1 q2 => hag9 a9 (by omega))
  have h2 : xTx F5 ((s + 8)) (16) (dn2) (ds2) := xTx_fr h2 (fun a9 q1 q2 => hag9 a9 (by omega))
  have m2 : xTx F5 ((o + 8)) (16) (dn2) (ds2) := xTx_fr m2 (fun a9 q1 q2 => hag9 a9 (by omega))
  have h3 : xQp F5 ((s + 10)) (k2) (nx2) (p) ((fun i9 => if i9 < k2 then m9 i9 else m i9)) := xQp_fr h3 (fun a9 q1 q2 => hag9 a9 (by omega))
  have m3 : xQp F5 ((o + 10)) (k2) (nx2) (p2) (m9) := xQp_fr m3 (fun a9 q1 q2 => hag9 a9 (by omega))
  have h4 : xFr F5 ((s + 36)) (fk2) (fb2) (ftn2) (fts2) (fw2) := xFr_fr h4 (fun a9 q1 q2 => hag9 a9 (by omega))
  have m4 : xFr F5 ((o + 36)) (fk2) (fb2) (ftn2) (fts2) (fw2) := xFr_fr m4 (fun a9 q1 q2 => hag9 a9 (by omega))
  have h5 : xTx F5 ((s + 47)) (16) (rn2) (rs2) := j0
  have m5 : xTx F5 ((o + 47)) (16) (rn2) (rs2) := j1
  have hag : ∀ a9 : Nat, (a9 < s ∨ s + 49 ≤ a9) → F5 a9 = F a9 := fun a9 q0 => (hag9 a9 (by omega)).trans (hag a9 q0)
  have hg_52 := hag9
  clear hag9
  refine x_aload_n hC d_State_copyFrom_55 rfl rfl ?_
  refine x_aload_n hC d_State_copyFrom_56 rfl rfl ?_
  refine x_getf hC kf_State_57 m0 rfl d_State_copyFrom_57 ?_
  refine x_putf hC kf_State_57 h0 (Nat.le_of_ble_eq_true rfl) rfl rfl d_State_copyFrom_60 (fs1 := [.ref (s + 1), .ref (s + 8), .ref (s + 10), .ref (s + 36), .ref (s + 47), .int (nI (d1)), .int (nI (c2)), .int (nI (c3)), .int (nI (c4))]) rfl ?_
  generalize e6 : xup F5 (s) (.inl (7, [.ref (s + 1), .ref (s + 8), .ref (s + 10), .ref (s + 36), .ref (s + 47), .int (nI (d1)), .int (nI (c2)), .int (nI (c3)), .int (nI (c4))])) = F6
  have h0 : F6 (s) = some (.inl (7, [.ref (s + 1), .ref (s + 8), .ref (s + 10), .ref (s + 36), .ref (s + 47), .int (nI (d1)), .int (nI (c2)), .int (nI (c3)), .int (nI (c4))])) := by rw [← e6]; exact xup_eq
  have m0 : F6 (o) = some (.inl (7, [.ref (o + 1), .ref (o + 8), .ref (o + 10), .ref (o + 36), .ref (o + 47), .int (nI (d1)), .int (nI (d2)), .int (nI (d3)), .int (nI (d4))])) := by rw [← e6]; exact (xup_ne (by omega)).trans m0
  have h1 : xCd F6 ((s + 1)) (w2) ((hLen w2)) ((hVal (hLen w2))) ((hOrd (hLen w2))) ((hSum w2)) := xCd_fr h1 (fun a9 q1 q2 => by rw [← e6]; exact xup_ne (by omega))
  have m1 : xCd F6 ((o + 1)) (w2) ((hLen w2)) ((hVal (hLen w2))) ((hOrd (hLen w2))) ((hSum w2)) := xCd_fr m1 (fun a9 q1 q2 => by rw [← e6]; exact xup_ne (by omega))
  have h2 : xTx F6 ((s + 8)) (16) (dn2) (ds2) := xTx_fr h2 (fun a9 q1 q2 => by rw [← e6]; exact xup_ne (by omega))
  have m2 : xTx F6 ((o + 8)) (16) (dn2) (ds2) := xTx_fr m2 (fun a9 q1 q2 => by rw [← e6]; exact xup_ne (by omega))
  have h3 : xQp F6 ((s + 10)) (k2) (nx2) (p) ((fun i9 => if i9 < k2 then m9 i9 else m i9)) := xQp_fr h3 (fun a9 q1 q2 => by rw [← e6]; exact xup_ne (by omega))
  have m3 : xQp F6 ((o + 10)) (k2) (nx2) (p2) (m9) := xQp_fr m3 (fun a9 q1 q2 => by rw [← e6]; exact xup_ne (by omega))
  have h4 : xFr F6 ((s + 36)) (fk2) (fb2) (ftn2) (fts2) (fw2) := xFr_fr h4 (fun a9 q1 q2 => by rw [← e6]; exact xup_ne (by omega))
  have m4 : xFr F6 ((o + 36)) (fk2) (fb2) (ftn2) (fts2) (fw2) := xFr_fr m4 (fun a9 q1 q2 => by rw [← e6]; exact xup_ne (by omega))
  have h5 : xTx F6 ((s + 47)) (16) (rn2) (rs2) := xTx_fr h5 (fun a9 q1 q2 => by rw [← e6]; exact xup_ne (by omega))
  have m5 : xTx F6 ((o + 47)) (16) (rn2) (rs2) := xTx_fr m5 (fun a9 q1 q2 => by rw [← e6]; exact xup_ne (by omega))
  have hag : ∀ a9 : Nat, (a9 < s ∨ s + 49 ≤ a9) → F6 a9 = F a9 := fun a9 q0 => by rw [← e6]; exact (xup_ne (by omega)).trans (hag a9 q0)
  refine x_aload_n hC d_State_copyFrom_63 rfl rfl ?_
  refine x_aload_n hC d_State_copyFrom_64 rfl rfl ?_
  refine x_getf hC kf_State_61 m0 rfl d_State_copyFrom_65 ?_
  refine x_putf hC kf_State_61 h0 (Nat.le_of_ble_eq_true rfl) rfl rfl d_State_copyFrom_68 (fs1 := [.ref (s + 1), .ref (s + 8), .ref (s + 10), .ref (s + 36), .ref (s + 47), .int (nI (d1)), .int (nI (d2)), .int (nI (c3)), .int (nI (c4))]) rfl ?_
  generalize e7 : xup F6 (s) (.inl (7, [.ref (s + 1), .ref (s + 8), .ref (s + 10), .ref (s + 36), .ref (s + 47), .int (nI (d1)), .int (nI (d2)), .int (nI (c3)), .int (nI (c4))])) = F7
  have h0 : F7 (s) = some (.inl (7, [.ref (s + 1), .ref (s + 8), .ref (s + 10), .ref (s + 36), .ref (s + 47), .int (nI (d1)), .int (nI (d2)), .int (nI (c3)), .int (nI (c4))])) := by rw [← e7]; exact xup_eq
  have m0 : F7 (o) = some (.inl (7, [.ref (o + 1), .ref (o + 8), .ref (o + 10), .ref (o + 36), .ref (o + 47), .int (nI (d1)), .int (nI (d2)), .int (nI (d3)), .int (nI (d4))])) := by rw [← e7]; exact (xup_ne (by omega)).trans m0
  have h1 : xCd F7 ((s + 1)) (w2) ((hLen w2)) ((hVal (hLen w2))) ((hOrd (hLen w2))) ((hSum w2)) := xCd_fr h1 (fun a9 q1 q2 => by rw [← e7]; exact xup_ne (by omega))
  have m1 : xCd F7 ((o + 1)) (w2) ((hLen w2)) ((hVal (hLen w2))) ((hOrd (hLen w2))) ((hSum w2)) := xCd_fr m1 (fun a9 q1 q2 => by rw [← e7]; exact xup_ne (by omega))
  have h2 : xTx F7 ((s + 8)) (16) (dn2) (ds2) := xTx_fr h2 (fun a9 q1 q2 => by rw [← e7]; exact xup_ne (by omega))
  have m2 : xTx F7 ((o + 8)) (16) (dn2) (ds2) := xTx_fr m2 (fun a9 q1 q2 => by rw [← e7]; exact xup_ne (by omega))
  have h3 : xQp F7 ((s + 10)) (k2) (nx2) (p) ((fun i9 => if i9 < k2 then m9 i9 else m i9)) := xQp_fr h3 (fun a9 q1 q2 => by rw [← e7]; exact xup_ne (by omega))
  have m3 : xQp F7 ((o + 10)) (k2) (nx2) (p2) (m9) := xQp_fr m3 (fun a9 q1 q2 => by rw [← e7]; exact xup_ne (by omega))
  have h4 : xFr F7 ((s + 36)) (fk2) (fb2) (ftn2) (fts2) (fw2) := xFr_fr h4 (fun a9 q1 q2 => by rw [← e7]; exact xup_ne (by omega))
  have m4 : xFr F7 ((o + 36)) (fk2) (fb2) (ftn2) (fts2) (fw2) := xFr_fr m4 (fun a9 q1 q2 => by rw [← e7]; exact xup_ne (by omega))
  have h5 : xTx F7 ((s + 47)) (16) (rn2) (rs2) := xTx_fr h5 (fun a9 q1 q2 => by rw [← e7]; exact xup_ne (by omega))
  have m5 : xTx F7 ((o + 47)) (16) (rn2) (rs2) := xTx_fr m5 (fun a9 q1 q2 => by rw [← e7]; exact xup_ne (by omega))
  have hag : ∀ a9 : Nat, (a9 < s ∨ s + 49 ≤ a9) → F7 a9 = F a9 := fun a9 q0 => by rw [← e7]; exact (xup_ne (by omega)).trans (hag a9 q0)
  refine x_aload_n hC d_State_copyFrom_71 rfl rfl ?_
  refine x_aload_n hC d_State_copyFrom_72 rfl rfl ?_
  refine x_getf hC kf_State_64 m0 rfl d_State_copyFrom_73 ?_
  refine x_putf hC kf_State_64 h0 (Nat.le_of_ble_eq_true rfl) rfl rfl d_State_copyFrom_76 (fs1 := [.ref (s + 1), .ref (s + 8), .ref (s + 10), .ref (s + 36), .ref (s + 47), .int (nI (d1)), .int (nI (d2)), .int (nI (d3)), .int (nI (c4))]) rfl ?_
  generalize e8 : xup F7 (s) (.inl (7, [.ref (s + 1), .ref (s + 8), .ref (s + 10), .ref (s + 36), .ref (s + 47), .int (nI (d1)), .int (nI (d2)), .int (nI (d3)), .int (nI (c4))])) = F8
  have h0 : F8 (s) = some (.inl (7, [.ref (s + 1), .ref (s + 8), .ref (s + 10), .ref (s + 36), .ref (s + 47), .int (nI (d1)), .int (nI (d2)), .int (nI (d3)), .int (nI (c4))])) := by rw [← e8]; exact xup_eq
  have m0 : F8 (o) = some (.inl (7, [.ref (o + 1), .ref (o + 8), .ref (o + 10), .ref (o + 36), .ref (o + 47), .int (nI (d1)), .int (nI (d2)), .int (nI (d3)), .int (nI (d4))])) := by rw [← e8]; exact (xup_ne (by omega)).trans m0
  have h1 : xCd F8 ((s + 1)) (w2) ((hLen w2)) ((hVal (hLen w2))) ((hOrd (hLen w2))) ((hSum w2)) := xCd_fr h1 (fun a9 q1 q2 => by rw [← e8]; exact xup_ne (by omega))
  have m1 : xCd F8 ((o + 1)) (w2) ((hLen w2)) ((hVal (hLen w2))) ((hOrd (hLen w2))) ((hSum w2)) := xCd_fr m1 (fun a9 q1 q2 => by rw [← e8]; exact xup_ne (by omega))
  have h2 : xTx F8 ((s + 8)) (16) (dn2) (ds2) := xTx_fr h2 (fun a9 q1 q2 => by rw [← e8]; exact xup_ne (by omega))
  have m2 : xTx F8 ((o + 8)) (16) (dn2) (ds2) := xTx_fr m2 (fun a9 q1 q2 => by rw [← e8]; exact xup_ne (by omega))
  have h3 : xQp F8 ((s + 10)) (k2) (nx2) (p) ((fun i9 => if i9 < k2 then m9 i9 else m i9)) := xQp_fr h3 (fun a9 q1 q2 => by rw [← e8]; exact xup_ne (by omega))
  have m3 : xQp F8 ((o + 10)) (k2) (nx2) (p2) (m9) := xQp_fr m3 (fun a9 q1 q2 => by rw [← e8]; exact xup_ne (by omega))
  have h4 : xFr F8 ((s + 36)) (fk2) (fb2) (ftn2) (fts2) (fw2) := xFr_fr h4 (fun a9 q1 q2 => by rw [← e8]; exact xup_ne (by omega))
  have m4 : xFr F8 ((o + 36)) (fk2) (fb2) (ftn2) (fts2) (fw2) := xFr_fr m4 (fun a9 q1 q2 => by rw [← e8]; exact xup_ne (by omega))
  have h5 : xTx F8 ((s + 47)) (16) (rn2) (rs2) := xTx_fr h5 (fun a9 q1 q2 => by rw [← e8]; exact xup_ne (by omega))
  have m5 : xTx F8 ((o + 47)) (16) (rn2) (rs2) := xTx_fr m5 (fun a9 q1 q2 => by rw [← e8]; exact xup_ne (by omega))
  have hag : ∀ a9 : Nat, (a9 < s ∨ s + 49 ≤ a9) → F8 a9 = F a9 := fun a9 q0 => by rw [← e8]; exact (xup_ne (by omega)).trans (hag a9 q0)
  refine x_aload_n hC d_State_copyFrom_79 rfl rfl ?_
  refine x_aload_n hC d_State_copyFrom_80 rfl rfl ?_
  refine x_getf hC kf_State_67 m0 rfl d_State_copyFrom_81 ?_
  refine x_putf hC kf_State_67 h0 (Nat.le_of_ble_eq_true rfl) rfl rfl d_State_copyFrom_84 (fs1 := [.ref (s + 1), .ref (s + 8), .ref (s + 10), .ref (s + 36), .ref (s + 47), .int (nI (d1)), .int (nI (d2)), .int (nI (d3)), .int (nI (d4))]) rfl ?_
  generalize e9 : xup F8 (s) (.inl (7, [.ref (s + 1), .ref (s + 8), .ref (s + 10), .ref (s + 36), .ref (s + 47), .int (nI (d1)), .int (nI (d2)), .int (nI (d3)), .int (nI (d4))])) = F9
  have h0 : F9 (s) = some (.inl (7, [.ref (s + 1), .ref (s + 8), .ref (s + 10), .ref (s + 36), .ref (s + 47), .int (nI (d1)), .int (nI (d2)), .int (nI (d3)), .int (nI (d4))])) := by rw [← e9]; exact xup_eq
  have m0 : F9 (o) = some (.inl (7, [.ref (o + 1), .ref (o + 8), .ref (o + 10), .ref (o + 36), .ref (o + 47), .int (nI (d1)), .int (nI (d2)), .int (nI (d3)), .int (nI (d4))])) := by rw [← e9]; exact (xup_ne (by omega)).trans m0
  have h1 : xCd F9 ((s + 1)) (w2) ((hLen w2)) ((hVal (hLen w2))) ((hOrd (hLen w2))) ((hSum w2)) := xCd_fr h1 (fun a9 q1 q2 => by rw [← e9]; exact xup_ne (by omega))
  have m1 : xCd F9 ((o + 1)) (w2) ((hLen w2)) ((hVal (hLen w2))) ((hOrd (hLen w2))) ((hSum w2)) := xCd_fr m1 (fun a9 q1 q2 => by rw [← e9]; exact xup_ne (by omega))
  have h2 : xTx F9 ((s + 8)) (16) (dn2) (ds2) := xTx_fr h2 (fun a9 q1 q2 => by rw [← e9]; exact xup_ne (by omega))
  have m2 : xTx F9 ((o + 8)) (16) (dn2) (ds2) := xTx_fr m2 (fun a9 q1 q2 => by rw [← e9]; exact xup_ne (by omega))
  have h3 : xQp F9 ((s + 10)) (k2) (nx2) (p) ((fun i9 => if i9 < k2 then m9 i9 else m i9)) := xQp_fr h3 (fun a9 q1 q2 => by rw [← e9]; exact xup_ne (by omega))
  have m3 : xQp F9 ((o + 10)) (k2) (nx2) (p2) (m9) := xQp_fr m3 (fun a9 q1 q2 => by rw [← e9]; exact xup_ne (by omega))
  have h4 : xFr F9 ((s + 36)) (fk2) (fb2) (ftn2) (fts2) (fw2) := xFr_fr h4 (fun a9 q1 q2 => by rw [← e9]; exact xup_ne (by omega))
  have m4 : xFr F9 ((o + 36)) (fk2) (fb2) (ftn2) (fts2) (fw2) := xFr_fr m4 (fun a9 q1 q2 => by rw [← e9]; exact xup_ne (by omega))
  have h5 : xTx F9 ((s + 47)) (16) (rn2) (rs2) := xTx_fr h5 (fun a9 q1 q2 => by rw [← e9]; exact xup_ne (by omega))
  have m5 : xTx F9 ((o + 47)) (16) (rn2) (rs2) := xTx_fr m5 (fun a9 q1 q2 => by rw [← e9]; exact xup_ne (by omega))
  have hag : ∀ a9 : Nat, (a9 < s ∨ s + 49 ≤ a9) → F9 a9 = F a9 := fun a9 q0 => by rw [← e9]; exact (xup_ne (by omega)).trans (hag a9 q0)
  exact hret _ _ _ _ _ _ d_State_copyFrom_87 (by decide) (by decide) (⟨rfl, rfl, ⟨h0, h1, h2, ⟨p, _, h3, fun i hi => (if_pos hi).trans (hms2 i hi)⟩, h4, h5⟩, ⟨m0, m1, m2, ⟨p2, m9, m3, hms2⟩, m4, m5⟩, hag⟩)

theorem d_State_init_0 : decode prog_11_method_1_code 0 = .ok (.aload_n 0, 1) := by decide +kernel
theorem d_State_init_1 : decode prog_11_method_1_code 1 = .ok (.invokespecial 3, 3) := by decide +kernel
theorem d_State_init_4 : decode prog_11_method_1_code 4 = .ok (.aload_n 0, 1) := by decide +kernel
theorem d_State_init_5 : decode prog_11_method_1_code 5 = .ok (.new 9, 3) := by decide +kernel
theorem d_State_init_8 : decode prog_11_method_1_code 8 = .ok (.dup, 1) := by decide +kernel
theorem d_State_init_9 : decode prog_11_method_1_code 9 = .ok (.invokespecial 11, 3) := by decide +kernel
theorem d_State_init_12 : decode prog_11_method_1_code 12 = .ok (.putfield 12, 3) := by decide +kernel
theorem d_State_init_15 : decode prog_11_method_1_code 15 = .ok (.aload_n 0, 1) := by decide +kernel
theorem d_State_init_16 : decode prog_11_method_1_code 16 = .ok (.new 18, 3) := by decide +kernel
theorem d_State_init_19 : decode prog_11_method_1_code 19 = .ok (.dup, 1) := by decide +kernel
theorem d_State_init_20 : decode prog_11_method_1_code 20 = .ok (.bipush 16, 2) := by decide +kernel
theorem d_State_init_22 : decode prog_11_method_1_code 22 = .ok (.invokespecial 20, 3) := by decide +kernel
theorem d_State_init_25 : decode prog_11_method_1_code 25 = .ok (.putfield 23, 3) := by decide +kernel
theorem d_State_init_28 : decode prog_11_method_1_code 28 = .ok (.aload_n 0, 1) := by decide +kernel
theorem d_State_init_29 : decode prog_11_method_1_code 29 = .ok (.new 27, 3) := by decide +kernel
theorem d_State_init_32 : decode prog_11_method_1_code 32 = .ok (.dup, 1) := by decide +kernel
theorem d_State_init_33 : decode prog_11_method_1_code 33 = .ok (.invokespecial 29, 3) := by decide +kernel
theorem d_State_init_36 : decode prog_11_method_1_code 36 = .ok (.putfield 30, 3) := by decide +kernel
theorem d_State_init_39 : decode prog_11_method_1_code 39 = .ok (.aload_n 0, 1) := by decide +kernel
theorem d_State_init_40 : decode prog_11_method_1_code 40 = .ok (.new 34, 3) := by decide +kernel
theorem d_State_init_43 : decode prog_11_method_1_code 43 = .ok (.dup, 1) := by decide +kernel
theorem d_State_init_44 : decode prog_11_method_1_code 44 = .ok (.invokespecial 36, 3) := by decide +kernel
theorem d_State_init_47 : decode prog_11_method_1_code 47 = .ok (.putfield 37, 3) := by decide +kernel
theorem d_State_init_50 : decode prog_11_method_1_code 50 = .ok (.aload_n 0, 1) := by decide +kernel
theorem d_State_init_51 : decode prog_11_method_1_code 51 = .ok (.new 18, 3) := by decide +kernel
theorem d_State_init_54 : decode prog_11_method_1_code 54 = .ok (.dup, 1) := by decide +kernel
theorem d_State_init_55 : decode prog_11_method_1_code 55 = .ok (.bipush 16, 2) := by decide +kernel
theorem d_State_init_57 : decode prog_11_method_1_code 57 = .ok (.invokespecial 20, 3) := by decide +kernel
theorem d_State_init_60 : decode prog_11_method_1_code 60 = .ok (.putfield 41, 3) := by decide +kernel
theorem d_State_init_63 : decode prog_11_method_1_code 63 = .ok (.return_, 1) := by decide +kernel
set_option maxHeartbeats 4000000 in
set_option maxRecDepth 20000 in
theorem c_State_init {P : xP} {F : xF} {s : Nat} (h0 : F (s) = some (.inl (7, [.null, .null, .null, .null, .null, .int (nI 0), .int (nI 0), .int (nI 0), .int (nI 0)])))  : xM P xy_State_init [.ref s] F (s + 1) 48 375 (fun r9 F9 z9 => r9 = none ∧ z9 = s + 49 ∧ xSt F9 (s) (aS0) ∧ (∀ a9 : Nat, (a9 < s ∨ s + 49 ≤ a9) → F9 a9 = F a9)) := by
  refine xM_v rfl (Nat.le_of_ble_eq_true rfl) (L0 := [some (.ref s)]) rfl rfl fun Θ hC hin hret => ?_
  have hag : ∀ a9 : Nat, (a9 < s ∨ s + 49 ≤ a9) → F a9 = F a9 := fun a9 _ => rfl
  refine x_aload_n hC d_State_init_0 rfl rfl ?_
  refine x_objInit hC ko_State_3 rfl (by decide) (Nat.le_of_ble_eq_true rfl) d_State_init_1 ?_
  refine x_aload_n hC d_State_init_4 rfl rfl ?_
  refine x_new hC (fs := [.null, .null, .null, .null, .null, .null, .int (nI 0)]) kn_State_9 (by decide) d_State_init_5 ?_
  generalize e1 : xup F (s + 1) (.inl (1, [.null, .null, .null, .null, .null, .null, .int (nI 0)])) = F1
  have h0 : F1 (s) = some (.inl (7, [.null, .null, .null, .null, .null, .int (nI 0), .int (nI 0), .int (nI 0), .int (nI 0)])) := by rw [← e1]; exact (xup_ne (by omega)).trans h0
  have h1 : F1 (s + 1) = some (.inl (1, [.null, .null, .null, .null, .null, .null, .int (nI 0)])) := by rw [← e1]; exact xup_eq
  have hag : ∀ a9 : Nat, (a9 < s ∨ s + 49 ≤ a9) → F1 a9 = F a9 := fun a9 q0 => by rw [← e1]; exact (xup_ne (by omega)).trans (hag a9 q0)
  refine x_dup hC d_State_init_8 rfl ?_
  refine x_callI hC ki_State_11 rfl (c_Code_init (h0 := h1)) (by decide) rfl rfl rfl (Nat.le_of_ble_eq_true rfl) (by decide) d_State_init_9 (fun r9 F9 z9 hp9 => ?_)
  obtain ⟨rfl, h9c, j0, hag9⟩ := hp9
  rw [h9c]
  clear h9c z9
  generalize F9 = F2 at *
  have h0 : F2 (s) = some (.inl (7, [.null, .null, .null, .null, .null, .int (nI 0), .int (nI 0), .int (nI 0), .int (nI 0)])) := (hag9 _ (by omega)).trans h0
  have h1 : xCd F2 ((s + 1)) ((fun _ => 1)) ((hLen (fun _ => 1))) ((hVal (hLen (fun _ => 1)))) ((hOrd (hLen (fun _ => 1)))) ((hSum (fun _ => 1))) := j0
  have hag : ∀ a9 : Nat, (a9 < s ∨ s + 49 ≤ a9) → F2 a9 = F a9 := fun a9 q0 => (hag9 a9 (by omega)).trans (hag a9 q0)
  have hg_9 := hag9
  clear hag9
  refine x_putF hC hin kk_State_12 h0 (Nat.le_of_ble_eq_true rfl) rfl rfl d_State_init_12 (fs1 := [.ref (s + 1), .null, .null, .null, .null, .int (nI 0), .int (nI 0), .int (nI 0), .int (nI 0)]) rfl ?_
  generalize e3 : xup F2 (s) (.inl (7, [.ref (s + 1), .null, .null, .null, .null, .int (nI 0), .int (nI 0), .int (nI 0), .int (nI 0)])) = F3
  have h0 : F3 (s) = some (.inl (7, [.ref (s + 1), .null, .null, .null, .null, .int (nI 0), .int (nI 0), .int (nI 0), .int (nI 0)])) := by rw [← e3]; exact xup_eq
  have h1 : xCd F3 ((s + 1)) ((fun _ => 1)) ((hLen (fun _ => 1))) ((hVal (hLen (fun _ => 1)))) ((hOrd (hLen (fun _ => 1)))) ((hSum (fun _ => 1))) := xCd_fr h1 (fun a9 q1 q2 => by rw [← e3]; exact xup_ne (by omega))
  have hag : ∀ a9 : Nat, (a9 < s ∨ s + 49 ≤ a9) → F3 a9 = F a9 := fun a9 q0 => by rw [← e3]; exact (xup_ne (by omega)).trans (hag a9 q0)
  refine x_aload_n hC d_State_init_15 rfl rfl ?_
  refine x_new hC (fs := [.null, .int (nI 0)]) kn_State_18 (by decide) d_State_init_16 ?_
  generalize e4 : xup F3 (s + 8) (.inl (8, [.null, .int (nI 0)])) = F4
  have h0 : F4 (s) = some (.inl (7, [.ref (s + 1), .null, .null, .null, .null, .int (nI 0), .int (nI 0), .int (nI 0), .int (nI 0)])) := by rw [← e4]; exact (xup_ne (by omega)).trans h0
  have h1 : xCd F4 ((s + 1)) ((fun _ => 1)) ((hLen (fun _ => 1))) ((hVal (hLen (fun _ => 1)))) ((hOrd (hLen (fun _ => 1)))) ((hSum (fun _ => 1))) := xCd_fr h1 (fun a9 q1 q2 => by rw [← e4]; exact xup_ne (by omega))
  have h2 : F4 (s + 8) = some (.inl (8, [.null, .int (nI 0)])) := by rw [← e4]; exact xup_eq
  have hag : ∀ a9 : Nat, (a9 < s ∨ s + 49 ≤ a9) → F4 a9 = F a9 := fun a9 q0 => by rw [← e4]; exact (xup_ne (by omega)).trans (hag a9 q0)
  refine x_dup hC d_State_init_19 rfl ?_
  refine x_bipush hC d_State_init_20 (v := nI 16) (by decide) ?_
  refine x_callI hC ki_State_20 rfl (c_Text_init16 (h0 := h2)) (by decide) rfl rfl rfl (Nat.le_of_ble_eq_true rfl) (by decide) d_State_init_22 (fun r9 F9 z9 hp9 => ?_)
  obtain ⟨rfl, h9c, j0, hag9⟩ := hp9
  rw [h9c]
  clear h9c z9
  generalize F9 = F5 at *
  have h0 : F5 (s) = some (.inl (7, [.ref (s + 1), .null, .null, .null, .null, .int (nI 0), .int (nI 0), .int (nI 0), .int (nI 0)])) := (hag9 _ (by omega)).trans h0
  have h1 : xCd F5 ((s + 1)) ((fun _ => 1)) ((hLen (fun _ => 1))) ((hVal (hLen (fun _ => 1)))) ((hOrd (hLen (fun _ => 1)))) ((hSum (fun _ => 1))) := xCd_fr h1 (fun a9 q1 q2 => hag9 a9 (by omega))
  have h2 : xTx F5 ((s + 8)) (16) (0) ((fun _ => 0)) := j0
  have hag : ∀ a9 : Nat, (a9 < s ∨ s + 49 ≤ a9) → F5 a9 = F a9 := fun a9 q0 => (hag9 a9 (by omega)).trans (hag a9 q0)
  have hg_22 := hag9
  clear hag9
  refine x_putF hC hin kk_State_23 h0 (Nat.le_of_ble_eq_true rfl) rfl rfl d_State_init_25 (fs1 := [.ref (s + 1), .ref (s + 8), .null, .null, .null, .int (nI 0), .int (nI 0), .int (nI 0), .int (nI 0)]) rfl ?_
  generalize e6 : xup F5 (s) (.inl (7, [.ref (s + 1), .ref (s + 8), .null, .null, .null, .int (nI 0), .int (nI 0), .int (nI 0), .int (nI 0)])) = F6
  have h0 : F6 (s) = some (.inl (7, [.ref (s + 1), .ref (s + 8), .null, .null, .null, .int (nI 0), .int (nI 0), .int (nI 0), .int (nI 0)])) := by rw [← e6]; exact xup_eq
  have h1 : xCd F6 ((s + 1)) ((fun _ => 1)) ((hLen (fun _ => 1))) ((hVal (hLen (fun _ => 1)))) ((hOrd (hLen (fun _ => 1)))) ((hSum (fun _ => 1))) := xCd_fr h1 (fun a9 q1 q2 => by rw [← e6]; exact xup_ne (by omega))
  have h2 : xTx F6 ((s + 8)) (16) (0) ((fun _ => 0)) := xTx_fr h2 (fun a9 q1 q2 => by rw [← e6]; exact xup_ne (by omega))
  have hag : ∀ a9 : Nat, (a9 < s ∨ s + 49 ≤ a9) → F6 a9 = F a9 := fun a9 q0 => by rw [← e6]; exact (xup_ne (by omega)).trans (hag a9 q0)
  refine x_aload_n hC d_State_init_28 rfl rfl ?_
  refine x_new hC (fs := [.null, .int (nI 0), .int (nI 0)]) kn_State_27 (by decide) d_State_init_29 ?_
  generalize e7 : xup F6 (s + 10) (.inl (5, [.null, .int (nI 0), .int (nI 0)])) = F7
  have h0 : F7 (s) = some (.inl (7, [.ref (s + 1), .ref (s + 8), .null, .null, .null, .int (nI 0), .int (nI 0), .int (nI 0), .int (nI 0)])) := by rw [← e7]; exact (xup_ne (by omega)).trans h0
  have h1 : xCd F7 ((s + 1)) ((fun _ => 1)) ((hLen (fun _ => 1))) ((hVal (hLen (fun _ => 1)))) ((hOrd (hLen (fun _ => 1)))) ((hSum (fun _ => 1))) := xCd_fr h1 (fun a9 q1 q2 => by rw [← e7]; exact xup_ne (by omega))
  have h2 : xTx F7 ((s + 8)) (16) (0) ((fun _ => 0)) := xTx_fr h2 (fun a9 q1 q2 => by rw [← e7]; exact xup_ne (by omega))
  have h3 : F7 (s + 10) = some (.inl (5, [.null, .int (nI 0), .int (nI 0)])) := by rw [← e7]; exact xup_eq
  have hag : ∀ a9 : Nat, (a9 < s ∨ s + 49 ≤ a9) → F7 a9 = F a9 := fun a9 q0 => by rw [← e7]; exact (xup_ne (by omega)).trans (hag a9 q0)
  refine x_dup hC d_State_init_32 rfl ?_
  refine x_callI hC ki_State_29 rfl (c_Queue_init (h0 := h3)) (by decide) rfl rfl rfl (Nat.le_of_ble_eq_true rfl) (by decide) d_State_init_33 (fun r9 F9 z9 hp9 => ?_)
  obtain ⟨rfl, h9c, j0, hag9⟩ := hp9
  rw [h9c]
  clear h9c z9
  generalize F9 = F8 at *
  have h0 : F8 (s) = some (.inl (7, [.ref (s + 1), .ref (s + 8), .null, .null, .null, .int (nI 0), .int (nI 0), .int (nI 0), .int (nI 0)])) := (hag9 _ (by omega)).trans h0
  have h1 : xCd F8 ((s + 1)) ((fun _ => 1)) ((hLen (fun _ => 1))) ((hVal (hLen (fun _ => 1)))) ((hOrd (hLen (fun _ => 1)))) ((hSum (fun _ => 1))) := xCd_fr h1 (fun a9 q1 q2 => hag9 a9 (by omega))
  have h2 : xTx F8 ((s + 8)) (16) (0) ((fun _ => 0)) := xTx_fr h2 (fun a9 q1 q2 => hag9 a9 (by omega))
  have h3 : xQp F8 ((s + 10)) (0) (0) ((fun i9 => i9)) ((fun _ => (0, 0, 0, fun _ => 0))) := j0
  have hag : ∀ a9 : Nat, (a9 < s ∨ s + 49 ≤ a9) → F8 a9 = F a9 := fun a9 q0 => (hag9 a9 (by omega)).trans (hag a9 q0)
  have hg_33 := hag9
  clear hag9
  refine x_putF hC hin kk_State_30 h0 (Nat.le_of_ble_eq_true rfl) rfl rfl d_State_init_36 (fs1 := [.ref (s + 1), .ref (s + 8), .ref (s + 10), .null, .null, .int (nI 0), .int (nI 0), .int (nI 0), .int (nI 0)]) rfl ?_
  generalize e9 : xup F8 (s) (.inl (7, [.ref (s + 1), .ref (s + 8), .ref (s + 10), .null, .null, .int (nI 0), .int (nI 0), .int (nI 0), .int (nI 0)])) = F9
  have h0 : F9 (s) = some (.inl (7, [.ref (s + 1), .ref (s + 8), .ref (s + 10), .null, .null, .int (nI 0), .int (nI 0), .int (nI 0), .int (nI 0)])) := by rw [← e9]; exact xup_eq
  have h1 : xCd F9 ((s + 1)) ((fun _ => 1)) ((hLen (fun _ => 1))) ((hVal (hLen (fun _ => 1)))) ((hOrd (hLen (fun _ => 1)))) ((hSum (fun _ => 1))) := xCd_fr h1 (fun a9 q1 q2 => by rw [← e9]; exact xup_ne (by omega))
  have h2 : xTx F9 ((s + 8)) (16) (0) ((fun _ => 0)) := xTx_fr h2 (fun a9 q1 q2 => by rw [← e9]; exact xup_ne (by omega))
  have h3 : xQp F9 ((s + 10)) (0) (0) ((fun i9 => i9)) ((fun _ => (0, 0, 0, fun _ => 0))) := xQp_fr h3 (fun a9 q1 q2 => by rw [← e9]; exact xup_ne (by omega))
  have hag : ∀ a9 : Nat, (a9 < s ∨ s + 49 ≤ a9) → F9 a9 = F a9 := fun a9 q0 => by rw [← e9]; exact (xup_ne (by omega)).trans (hag a9 q0)
  refine x_aload_n hC d_State_init_39 rfl rfl ?_
  refine x_new hC (fs := [.null, .null, .null, .int (nI 0)]) kn_State_34 (by decide) d_State_init_40 ?_
  generalize e10 : xup F9 (s + 36) (.inl (2, [.null, .null, .null, .int (nI 0)])) = F10
  have h0 : F10 (s) = some (.inl (7, [.ref (s + 1), .ref (s + 8), .ref (s + 10), .null, .null, .int (nI 0), .int (nI 0), .int (nI 0), .int (nI 0)])) := by rw [← e10]; exact (xup_ne (by omega)).trans h0
  have h1 : xCd F10 ((s + 1)) ((fun _ => 1)) ((hLen (fun _ => 1))) ((hVal (hLen (fun _ => 1)))) ((hOrd (hLen (fun _ => 1)))) ((hSum (fun _ => 1))) := xCd_fr h1 (fun a9 q1 q2 => by rw [← e10]; exact xup_ne (by omega))
  have h2 : xTx F10 ((s + 8)) (16) (0) ((fun _ => 0)) := xTx_fr h2 (fun a9 q1 q2 => by rw [← e10]; exact xup_ne (by omega))
  have h3 : xQp F10 ((s + 10)) (0) (0) ((fun i9 => i9)) ((fun _ => (0, 0, 0, fun _ => 0))) := xQp_fr h3 (fun a9 q1 q2 => by rw [← e10]; exact xup_ne (by omega))
  have h4 : F10 (s + 36) = some (.inl (2, [.null, .null, .null, .int (nI 0)])) := by rw [← e10]; exact xup_eq
  have hag : ∀ a9 : Nat, (a9 < s ∨ s + 49 ≤ a9) → F10 a9 = F a9 := fun a9 q0 => by rw [← e10]; exact (xup_ne (by omega)).trans (hag a9 q0)
  refine x_dup hC d_State_init_43 rfl ?_
  refine x_callI hC ki_State_36 rfl (c_Frame_init (h0 := h4)) (by decide) rfl rfl rfl (Nat.le_of_ble_eq_true rfl) (by decide) d_State_init_44 (fun r9 F9 z9 hp9 => ?_)
  obtain ⟨rfl, h9c, j0, hag9⟩ := hp9
  rw [h9c]
  clear h9c z9
  generalize F9 = F11 at *
  have h0 : F11 (s) = some (.inl (7, [.ref (s + 1), .ref (s + 8), .ref (s + 10), .null, .null, .int (nI 0), .int (nI 0), .int (nI 0), .int (nI 0)])) := (hag9 _ (by omega)).trans h0
  have h1 : xCd F11 ((s + 1)) ((fun _ => 1)) ((hLen (fun _ => 1))) ((hVal (hLen (fun _ => 1)))) ((hOrd (hLen (fun _ => 1)))) ((hSum (fun _ => 1))) := xCd_fr h1 (fun a9 q1 q2 => hag9 a9 (by omega))
  have h2 : xTx F11 ((s + 8)) (16) (0) ((fun _ => 0)) := xTx_fr h2 (fun a9 q1 q2 => hag9 a9 (by omega))
  have h3 : xQp F11 ((s + 10)) (0) (0) ((fun i9 => i9)) ((fun _ => (0, 0, 0, fun _ => 0))) := xQp_fr h3 (fun a9 q1 q2 => hag9 a9 (by omega))
  have h4 : xFr F11 ((s + 36)) (0) ((fun _ => 0)) (0) ((fun _ => 0)) ((fun _ => 1)) := j0
  have hag : ∀ a9 : Nat, (a9 < s ∨ s + 49 ≤ a9) → F11 a9 = F a9 := fun a9 q0 => (hag9 a9 (by omega)).trans (hag a9 q0)
  have hg_44 := hag9
  clear hag9
  refine x_putF hC hin kk_State_37 h0 (Nat.le_of_ble_eq_true rfl) rfl rfl d_State_init_47 (fs1 := [.ref (s + 1), .ref (s + 8), .ref (s + 10), .ref (s + 36), .null, .int (nI 0), .int (nI 0), .int (nI 0), .int (nI 0)]) rfl ?_
  generalize e12 : xup F11 (s) (.inl (7, [.ref (s + 1), .ref (s + 8), .ref (s + 10), .ref (s + 36), .null, .int (nI 0), .int (nI 0), .int (nI 0), .int (nI 0)])) = F12
  have h0 : F12 (s) = some (.inl (7, [.ref (s + 1), .ref (s + 8), .ref (s + 10), .ref (s + 36), .null, .int (nI 0), .int (nI 0), .int (nI 0), .int (nI 0)])) := by rw [← e12]; exact xup_eq
  have h1 : xCd F12 ((s + 1)) ((fun _ => 1)) ((hLen (fun _ => 1))) ((hVal (hLen (fun _ => 1)))) ((hOrd (hLen (fun _ => 1)))) ((hSum (fun _ => 1))) := xCd_fr h1 (fun a9 q1 q2 => by rw [← e12]; exact xup_ne (by omega))
  have h2 : xTx F12 ((s + 8)) (16) (0) ((fun _ => 0)) := xTx_fr h2 (fun a9 q1 q2 => by rw [← e12]; exact xup_ne (by omega))
  have h3 : xQp F12 ((s + 10)) (0) (0) ((fun i9 => i9)) ((fun _ => (0, 0, 0, fun _ => 0))) := xQp_fr h3 (fun a9 q1 q2 => by rw [← e12]; exact xup_ne (by omega))
  have h4 : xFr F12 ((s + 36)) (0) ((fun _ => 0)) (0) ((fun _ => 0)) ((fun _ => 1)) := xFr_fr h4 (fun a9 q1 q2 => by rw [← e12]; exact xup_ne (by omega))
  have hag : ∀ a9 : Nat, (a9 < s ∨ s + 49 ≤ a9) → F12 a9 = F a9 := fun a9 q0 => by rw [← e12]; exact (xup_ne (by omega)).trans (hag a9 q0)
  refine x_aload_n hC d_State_init_50 rfl rfl ?_
  refine x_new hC (fs := [.null, .int (nI 0)]) kn_State_18 (by decide) d_State_init_51 ?_
  generalize e13 : xup F12 (s + 47) (.inl (8, [.null, .int (nI 0)])) = F13
  have h0 : F13 (s) = some (.inl (7, [.ref (s + 1), .ref (s + 8), .ref (s + 10), .ref (s + 36), .null, .int (nI 0), .int (nI 0), .int (nI 0), .int (nI 0)])) := by rw [← e13]; exact (xup_ne (by omega)).trans h0
  have h1 : xCd F13 ((s + 1)) ((fun _ => 1)) ((hLen (fun _ => 1))) ((hVal (hLen (fun _ => 1)))) ((hOrd (hLen (fun _ => 1)))) ((hSum (fun _ => 1))) := xCd_fr h1 (fun a9 q1 q2 => by rw [← e13]; exact xup_ne (by omega))
  have h2 : xTx F13 ((s + 8)) (16) (0) ((fun _ => 0)) := xTx_fr h2 (fun a9 q1 q2 => by rw [← e13]; exact xup_ne (by omega))
  have h3 : xQp F13 ((s + 10)) (0) (0) ((fun i9 => i9)) ((fun _ => (0, 0, 0, fun _ => 0))) := xQp_fr h3 (fun a9 q1 q2 => by rw [← e13]; exact xup_ne (by omega))
  have h4 : xFr F13 ((s + 36)) (0) ((fun _ => 0)) (0) ((fun _ => 0)) ((fun _ => 1)) := xFr_fr h4 (fun a9 q1 q2 => by rw [← e13]; exact xup_ne (by omega))
  have h5 : F13 (s + 47) = some (.inl (8, [.null, .int (nI 0)])) := by rw [← e13]; exact xup_eq
  have hag : ∀ a9 : Nat, (a9 < s ∨ s + 49 ≤ a9) → F13 a9 = F a9 := fun a9 q0 => by rw [← e13]; exact (xup_ne (by omega)).trans (hag a9 q0)
  refine x_dup hC d_State_init_54 rfl ?_
  refine x_bipush hC d_State_init_55 (v := nI 16) (by decide) ?_
  refine x_callI hC ki_State_20 rfl (c_Text_init16 (h0 := h5)) (by decide) rfl rfl rfl (Nat.le_of_ble_eq_true rfl) (by decide) d_State_init_57 (fun r9 F9 z9 hp9 => ?_)
  obtain ⟨rfl, h9c, j0, hag9⟩ := hp9
  rw [h9c]
  clear h9c z9
  generalize F9 = F14 at *
  have h0 : F14 (s) = some (.inl (7, [.ref (s + 1), .ref (s + 8), .ref (s + 10), .ref (s + 36), .null, .int (nI 0), .int (nI 0), .int (nI 0), .int (nI 0)])) := (hag9 _ (by omega)).trans h0
  have h1 : xCd F14 ((s + 1)) ((fun _ => 1)) ((hLen (fun _ => 1))) ((hVal (hLen (fun _ => 1)))) ((hOrd (hLen (fun _ => 1)))) ((hSum (fun _ => 1))) := xCd_fr h1 (fun a9 q1 q2 => hag9 a9 (by omega))
  have h2 : xTx F14 ((s + 8)) (16) (0) ((fun _ => 0)) := xTx_fr h2 (fun a9 q1 q2 => hag9 a9 (by omega))
  have h3 : xQp F14 ((s + 10)) (0) (0) ((fun i9 => i9)) ((fun _ => (0, 0, 0, fun _ => 0))) := xQp_fr h3 (fun a9 q1 q2 => hag9 a9 (by omega))
  have h4 : xFr F14 ((s + 36)) (0) ((fun _ => 0)) (0) ((fun _ => 0)) ((fun _ => 1)) := xFr_fr h4 (fun a9 q1 q2 => hag9 a9 (by omega))
  have h5 : xTx F14 ((s + 47)) (16) (0) ((fun _ => 0)) := j0
  have hag : ∀ a9 : Nat, (a9 < s ∨ s + 49 ≤ a9) → F14 a9 = F a9 := fun a9 q0 => (hag9 a9 (by omega)).trans (hag a9 q0)
  have hg_57 := hag9
  clear hag9
  refine x_putF hC hin kk_State_41 h0 (Nat.le_of_ble_eq_true rfl) rfl rfl d_State_init_60 (fs1 := [.ref (s + 1), .ref (s + 8), .ref (s + 10), .ref (s + 36), .ref (s + 47), .int (nI 0), .int (nI 0), .int (nI 0), .int (nI 0)]) rfl ?_
  generalize e15 : xup F14 (s) (.inl (7, [.ref (s + 1), .ref (s + 8), .ref (s + 10), .ref (s + 36), .ref (s + 47), .int (nI 0), .int (nI 0), .int (nI 0), .int (nI 0)])) = F15
  have h0 : F15 (s) = some (.inl (7, [.ref (s + 1), .ref (s + 8), .ref (s + 10), .ref (s + 36), .ref (s + 47), .int (nI 0), .int (nI 0), .int (nI 0), .int (nI 0)])) := by rw [← e15]; exact xup_eq
  have h1 : xCd F15 ((s + 1)) ((fun _ => 1)) ((hLen (fun _ => 1))) ((hVal (hLen (fun _ => 1)))) ((hOrd (hLen (fun _ => 1)))) ((hSum (fun _ => 1))) := xCd_fr h1 (fun a9 q1 q2 => by rw [← e15]; exact xup_ne (by omega))
  have h2 : xTx F15 ((s + 8)) (16) (0) ((fun _ => 0)) := xTx_fr h2 (fun a9 q1 q2 => by rw [← e15]; exact xup_ne (by omega))
  have h3 : xQp F15 ((s + 10)) (0) (0) ((fun i9 => i9)) ((fun _ => (0, 0, 0, fun _ => 0))) := xQp_fr h3 (fun a9 q1 q2 => by rw [← e15]; exact xup_ne (by omega))
  have h4 : xFr F15 ((s + 36)) (0) ((fun _ => 0)) (0) ((fun _ => 0)) ((fun _ => 1)) := xFr_fr h4 (fun a9 q1 q2 => by rw [← e15]; exact xup_ne (by omega))
  have h5 : xTx F15 ((s + 47)) (16) (0) ((fun _ => 0)) := xTx_fr h5 (fun a9 q1 q2 => by rw [← e15]; exact xup_ne (by omega))
  have hag : ∀ a9 : Nat, (a9 < s ∨ s + 49 ≤ a9) → F15 a9 = F a9 := fun a9 q0 => by rw [← e15]; exact (xup_ne (by omega)).trans (hag a9 q0)
  exact hret _ _ _ _ _ _ d_State_init_63 (by decide) (by decide) (⟨rfl, rfl, ⟨h0, h1, h2, ⟨_, _, h3, fun i hi => absurd hi (by show ¬ i < 0; omega)⟩, h4, h5⟩, hag⟩)

