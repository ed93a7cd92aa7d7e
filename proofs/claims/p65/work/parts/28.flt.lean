/-! floats: numbers made of whole numbers, their quotients, no NaN -/
theorem fl_rr (f : FP.Core.Fmt) (h1 : f.qmin ≤ f.qmax) (h2 : 0 < f.tails ∧ f.tails < 2 ^ f.p) (s : Bool) (A B : Nat) (e : Int) : (∃ t, FP.Core.roundRatio f s A B e = .inf t) ∨ ∃ c q, FP.Core.roundRatio f s A B e = .fin s c q ∧ c < 2 ^ f.p ∧ q ≤ f.qmax := by
  unfold FP.Core.roundRatio
  split
  · exact Or.inr ⟨0, _, rfl, by omega, h1⟩
  · unfold FP.Core.roundAt FP.Core.settle
    split
    · rename_i hc
      unfold FP.Core.bound
      split
      · rename_i hq
        exact Or.inr ⟨_, _, rfl, hc, hq⟩
      · exact Or.inl ⟨_, rfl⟩
    · unfold FP.Core.bound
      split
      · rename_i hq
        exact Or.inr ⟨_, _, rfl, h2.2, hq⟩
      · exact Or.inl ⟨_, rfl⟩
theorem fl_e64 {d : FP.Core.Datum} (h : (∃ t, d = .inf t) ∨ ∃ s c q, d = .fin s c q ∧ c < 2 ^ 53 ∧ q ≤ FP.Core.b64.qmax) : FP.Core.encode FP.Core.b64 d < 2 ^ 64 ∧ FP.Core.encode FP.Core.b64 d % 2 ^ 63 ≤ 9218868437227405312 := by
  have hx : FP.Core.b64.exps = 2048 := by decide
  have ht : FP.Core.b64.tails = 4503599627370496 := by decide
  have hm : FP.Core.b64.qmax = 971 := by decide
  have hn : FP.Core.b64.qmin = -1074 := by decide
  rcases h with ⟨t, rfl⟩ | ⟨s, c, q, rfl, hc, hq⟩
  · unfold FP.Core.encode FP.Core.assemble
    rw [hx, ht]
    cases t <;> decide
  · unfold FP.Core.encode FP.Core.assemble
    rw [hx, ht, hn]
    rw [hm] at hq
    have hs : s.toNat ≤ 1 := by cases s <;> decide
    dsimp only
    split <;> omega
theorem fl_e32 {d : FP.Core.Datum} (h : (∃ t, d = .inf t) ∨ ∃ s c q, d = .fin s c q ∧ c < 2 ^ 24 ∧ q ≤ FP.Core.b32.qmax) : FP.Core.encode FP.Core.b32 d < 2 ^ 32 ∧ FP.Core.encode FP.Core.b32 d % 2 ^ 31 ≤ 2139095040 := by
  have hx : FP.Core.b32.exps = 256 := by decide
  have ht : FP.Core.b32.tails = 8388608 := by decide
  have hm : FP.Core.b32.qmax = 104 := by decide
  have hn : FP.Core.b32.qmin = -149 := by decide
  rcases h with ⟨t, rfl⟩ | ⟨s, c, q, rfl, hc, hq⟩
  · unfold FP.Core.encode FP.Core.assemble
    rw [hx, ht]
    cases t <;> decide
  · unfold FP.Core.encode FP.Core.assemble
    rw [hx, ht, hn]
    rw [hm] at hq
    have hs : s.toNat ≤ 1 := by cases s <;> decide
    dsimp only
    split <;> omega
theorem fl_n64 {r : UInt64} (h : r.toNat % 2 ^ 63 ≤ 9218868437227405312) : vf_n64 r := by
  unfold vf_n64
  rw [UInt64.le_iff_toNat_le, UInt64.toNat_and, show (0x7fffffffffffffff : UInt64).toNat = 2 ^ 63 - 1 from rfl, Nat.and_two_pow_sub_one_eq_mod]
  exact h
theorem fl_n32 {r : UInt32} (h : r.toNat % 2 ^ 31 ≤ 2139095040) : vf_n32 r := by
  unfold vf_n32
  rw [UInt32.le_iff_toNat_le, UInt32.toNat_and, show (0x7fffffff : UInt32).toNat = 2 ^ 31 - 1 from rfl, Nat.and_two_pow_sub_one_eq_mod]
  exact h
/-- finite, and zero just where z -/
def fl_fin (f : FP.Core.Fmt) (n : Nat) (z : Bool) : Bool := match FP.Core.decode f n with
  | .fin _ c _ => decide (c = 0) == z
  | _ => false
theorem fl_i2d0 : ∀ i, i < 94 → ∀ j, j < 64 → fl_fin FP.Core.b64 (FP.i2d (nI (64 * i + j))).toNat (decide (64 * i + j = 0)) = true := by decide +kernel
theorem fl_i2f0 : ∀ i, i < 32 → ∀ j, j < 32 → fl_fin FP.Core.b32 (FP.i2f (nI (32 * i + j))).toNat (decide (32 * i + j = 0)) = true := by decide +kernel
theorem fl_i2d {a : Nat} (h : a < 6000) : ∃ s c q, FP.Core.decode FP.Core.b64 (FP.i2d (nI a)).toNat = .fin s c q ∧ (c = 0 ↔ a = 0) := by
  have h1 := fl_i2d0 (a / 64) (by omega) (a % 64) (by omega)
  rw [show 64 * (a / 64) + a % 64 = a by omega] at h1
  unfold fl_fin at h1
  split at h1
  · rename_i s c q e
    refine ⟨s, c, q, e, ?_⟩
    have h2 := eq_of_beq h1
    constructor
    · intro h3
      rw [decide_eq_true h3] at h2
      exact of_decide_eq_true h2.symm
    · intro h3
      rw [decide_eq_true h3] at h2
      exact of_decide_eq_true h2
  · cases h1
theorem fl_i2f {a : Nat} (h : a < 1000) : ∃ s c q, FP.Core.decode FP.Core.b32 (FP.i2f (nI a)).toNat = .fin s c q ∧ (c = 0 ↔ a = 0) := by
  have h1 := fl_i2f0 (a / 32) (by omega) (a % 32) (by omega)
  rw [show 32 * (a / 32) + a % 32 = a by omega] at h1
  unfold fl_fin at h1
  split at h1
  · rename_i s c q e
    refine ⟨s, c, q, e, ?_⟩
    have h2 := eq_of_beq h1
    constructor
    · intro h3
      rw [decide_eq_true h3] at h2
      exact of_decide_eq_true h2.symm
    · intro h3
      rw [decide_eq_true h3] at h2
      exact of_decide_eq_true h2
  · cases h1
theorem fl_qt {f : FP.Core.Fmt} (h1 : f.qmin ≤ f.qmax) (h2 : 0 < f.tails ∧ f.tails < 2 ^ f.p) {s t : Bool} {c d : Nat} {q r : Int} (hd : d ≠ 0) : (∃ t9, FP.Core.quotient f (.fin s c q) (.fin t d r) = .inf t9) ∨ ∃ s9 c9 q9, FP.Core.quotient f (.fin s c q) (.fin t d r) = .fin s9 c9 q9 ∧ c9 < 2 ^ f.p ∧ q9 ≤ f.qmax := by
  show (∃ t9, (if d = 0 then _ else FP.Core.roundRatio f (s != t) c d (q - r)) = .inf t9) ∨ ∃ s9 c9 q9, (if d = 0 then _ else FP.Core.roundRatio f (s != t) c d (q - r)) = .fin s9 c9 q9 ∧ _
  rw [if_neg hd]
  rcases fl_rr f h1 h2 (s != t) c d (q - r) with h | ⟨c9, q9, h⟩
  · exact Or.inl h
  · exact Or.inr ⟨_, c9, q9, h⟩
theorem fl_b64 : FP.Core.b64.qmin ≤ FP.Core.b64.qmax ∧ 0 < FP.Core.b64.tails ∧ FP.Core.b64.tails < 2 ^ FP.Core.b64.p := by decide
theorem fl_b32 : FP.Core.b32.qmin ≤ FP.Core.b32.qmax ∧ 0 < FP.Core.b32.tails ∧ FP.Core.b32.tails < 2 ^ FP.Core.b32.p := by decide
theorem fl_ddiv {a b : Nat} (ha : a < 6000) (hb : b < 6000) (h0 : 0 < b) : (FP.ddiv (FP.i2d (nI a)) (FP.i2d (nI b))).toNat % 2 ^ 63 ≤ 9218868437227405312 := by
  obtain ⟨s, c, q, e1, -⟩ := fl_i2d ha
  obtain ⟨t, d, r, e2, hd⟩ := fl_i2d hb
  have h1 := fl_e64 (fl_qt fl_b64.1 fl_b64.2 (s := s) (t := t) (c := c) (d := d) (q := q) (r := r) (fun h => by have := hd.mp h; omega))
  have h2 : (FP.ddiv (FP.i2d (nI a)) (FP.i2d (nI b))).toNat = FP.Core.encode FP.Core.b64 (FP.Core.quotient FP.Core.b64 (.fin s c q) (.fin t d r)) := by
    show (UInt64.ofNat (FP.Core.encode FP.Core.b64 (FP.Core.quotient FP.Core.b64 (FP.Core.decode FP.Core.b64 (FP.i2d (nI a)).toNat) (FP.Core.decode FP.Core.b64 (FP.i2d (nI b)).toNat)))).toNat = _
    rw [e1, e2, UInt64.toNat_ofNat_of_lt' (by exact h1.1)]
  rw [h2]
  exact h1.2
theorem fl_fdiv {a b : Nat} (ha : a < 1000) (hb : b < 1000) (h0 : 0 < b) : (FP.fdiv (FP.i2f (nI a)) (FP.i2f (nI b))).toNat % 2 ^ 31 ≤ 2139095040 := by
  obtain ⟨s, c, q, e1, -⟩ := fl_i2f ha
  obtain ⟨t, d, r, e2, hd⟩ := fl_i2f hb
  have h1 := fl_e32 (fl_qt fl_b32.1 fl_b32.2 (s := s) (t := t) (c := c) (d := d) (q := q) (r := r) (fun h => by have := hd.mp h; omega))
  have h2 : (FP.fdiv (FP.i2f (nI a)) (FP.i2f (nI b))).toNat = FP.Core.encode FP.Core.b32 (FP.Core.quotient FP.Core.b32 (.fin s c q) (.fin t d r)) := by
    show (UInt32.ofNat (FP.Core.encode FP.Core.b32 (FP.Core.quotient FP.Core.b32 (FP.Core.decode FP.Core.b32 (FP.i2f (nI a)).toNat) (FP.Core.decode FP.Core.b32 (FP.i2f (nI b)).toNat)))).toNat = _
    rw [e1, e2, UInt32.toNat_ofNat_of_lt' (by exact h1.1)]
  rw [h2]
  exact h1.2
theorem fl_d64 {n : Nat} (h : n % 2 ^ 63 ≤ 9218868437227405312) : FP.Core.decode FP.Core.b64 n ≠ .nan := by
  have hx : FP.Core.b64.exps = 2048 := by decide
  have ht : FP.Core.b64.tails = 4503599627370496 := by decide
  unfold FP.Core.decode FP.Core.fieldE FP.Core.fieldT
  rw [hx, ht]
  split
  · split
    · exact FP.Core.Datum.noConfusion
    · omega
  · split <;> exact FP.Core.Datum.noConfusion
theorem fl_d32 {n : Nat} (h : n % 2 ^ 31 ≤ 2139095040) : FP.Core.decode FP.Core.b32 n ≠ .nan := by
  have hx : FP.Core.b32.exps = 256 := by decide
  have ht : FP.Core.b32.tails = 8388608 := by decide
  unfold FP.Core.decode FP.Core.fieldE FP.Core.fieldT
  rw [hx, ht]
  split
  · split
    · exact FP.Core.Datum.noConfusion
    · omega
  · split <;> exact FP.Core.Datum.noConfusion
theorem fl_f2d {r : UInt32} (h : r.toNat % 2 ^ 31 ≤ 2139095040) : (FP.Core.f2d r).toNat % 2 ^ 63 ≤ 9218868437227405312 := by
  have h0 := fl_d32 h
  have h1 : FP.Core.encode FP.Core.b64 (FP.Core.round FP.Core.b64 (FP.Core.decode FP.Core.b32 r.toNat)) < 2 ^ 64 ∧ FP.Core.encode FP.Core.b64 (FP.Core.round FP.Core.b64 (FP.Core.decode FP.Core.b32 r.toNat)) % 2 ^ 63 ≤ 9218868437227405312 := by
    refine fl_e64 ?_
    cases hd : FP.Core.decode FP.Core.b32 r.toNat with
    | nan => exact absurd hd h0
    | inf t => exact Or.inl ⟨t, rfl⟩
    | fin s c q =>
      rcases fl_rr FP.Core.b64 fl_b64.1 fl_b64.2 s c 1 q with h | ⟨c9, q9, h⟩
      · exact Or.inl h
      · exact Or.inr ⟨_, c9, q9, h⟩
  show (UInt64.ofNat (FP.Core.encode FP.Core.b64 (FP.Core.round FP.Core.b64 (FP.Core.decode FP.Core.b32 r.toNat)))).toNat % 2 ^ 63 ≤ _
  rw [UInt64.toNat_ofNat_of_lt' (by exact h1.1)]
  exact h1.2
theorem fl_ord {d : FP.Core.Datum} (h : d ≠ .nan) : FP.Core.order d d = some .eq := by
  have hc : ∀ i : Int, compare i i = .eq := fun i => by simp [compare, compareOfLessAndEq]
  cases d with
  | nan => exact absurd rfl h
  | inf s => exact congrArg some (hc _)
  | fin s c q => exact congrArg some (hc _)
theorem fl_dcmp {r : UInt64} (h : r.toNat % 2 ^ 63 ≤ 9218868437227405312) : FP.dcmp r r = some .eq := fl_ord (fl_d64 h)
section FL
variable {P : xP} {Θ : xT} {cc : ByteArray} {own : String} {nL d mc ms pc : Nat} {L : List (Option Value)} {st : List Value} {F : xF} {z k n : Nat}
theorem x_i2d (hC : xC P Θ cc own nL d mc ms) {x : Int32} (hd : decode cc pc = .ok (.i2d, 1)) (kk : xX P Θ (pc + 1) L (.double (FP.i2d x) :: st) F z k n) : xX P Θ pc L (.int x :: st) F z k n :=
  fun H locs ls hW hl hx => lv_i2d hC.1 hC.2.1 hd (kk H locs ls hW hl hx)
theorem x_i2f (hC : xC P Θ cc own nL d mc ms) {x : Int32} (hd : decode cc pc = .ok (.i2f, 1)) (kk : xX P Θ (pc + 1) L (.float (FP.i2f x) :: st) F z k n) : xX P Θ pc L (.int x :: st) F z k n :=
  fun H locs ls hW hl hx => lv_i2f hC.1 hC.2.1 hd (kk H locs ls hW hl hx)
theorem x_ddiv (hC : xC P Θ cc own nL d mc ms) {x y : UInt64} (hd : decode cc pc = .ok (.ddiv, 1)) (hn : vf_n64 (FP.ddiv x y)) (kk : xX P Θ (pc + 1) L (.double (FP.ddiv x y) :: st) F z k n) : xX P Θ pc L (.double y :: .double x :: st) F z k n :=
  fun H locs ls hW hl hx => lv_ddiv hC.1 hC.2.1 hd hn (kk H locs ls hW hl hx)
theorem x_fdiv (hC : xC P Θ cc own nL d mc ms) {x y : UInt32} (hd : decode cc pc = .ok (.fdiv, 1)) (hn : vf_n32 (FP.fdiv x y)) (kk : xX P Θ (pc + 1) L (.float (FP.fdiv x y) :: st) F z k n) : xX P Θ pc L (.float y :: .float x :: st) F z k n :=
  fun H locs ls hW hl hx => lv_fdiv hC.1 hC.2.1 hd hn (kk H locs ls hW hl hx)
theorem x_f2d (hC : xC P Θ cc own nL d mc ms) {x : UInt32} (hd : decode cc pc = .ok (.f2d, 1)) (hn : vf_n64 (FP.f2d x)) (kk : xX P Θ (pc + 1) L (.double (FP.f2d x) :: st) F z k n) : xX P Θ pc L (.float x :: st) F z k n :=
  fun H locs ls hW hl hx => lv_f2d hC.1 hC.2.1 hd hn (kk H locs ls hW hl hx)
theorem x_dcmp (hC : xC P Θ cc own nL d mc ms) {x y : UInt64} {op : CmpOp} (hd : decode cc pc = .ok (.dcmp op, 1)) (kk : xX P Θ (pc + 1) L (.int (Op.cmpValue (FP.dcmp x y) op) :: st) F z k n) : xX P Θ pc L (.double y :: .double x :: st) F z k n :=
  fun H locs ls hW hl hx => lv_dcmp hC.1 hC.2.1 hd (kk H locs ls hW hl hx)
theorem x_fconst0 (hC : xC P Θ cc own nL d mc ms) (hd : decode cc pc = .ok (.fconst 0, 1)) (kk : xX P Θ (pc + 1) L (.float FP.fconst0 :: st) F z k n) : xX P Θ pc L st F z k n :=
  fun H locs ls hW hl hx => lv_fconst0 hC.1 hC.2.1 hd (kk H locs ls hW hl hx)
end FL
def xRd (P : xP) (Θ : xT) (cc : ByteArray) (mc ms : Nat) (post : Option Value → xF → Nat → Prop) : Prop :=
  ∀ (pc : Nat) (L : List (Option Value)) (F : xF) (z k n : Nat) (x : UInt64), decode cc pc = .ok (.dreturn, 1) → k ≤ mc → n ≤ ms → post (some (.double x)) F z → xX P Θ pc L [.double x] F z k n
def xRf (P : xP) (Θ : xT) (cc : ByteArray) (mc ms : Nat) (post : Option Value → xF → Nat → Prop) : Prop :=
  ∀ (pc : Nat) (L : List (Option Value)) (F : xF) (z k n : Nat) (x : UInt32), decode cc pc = .ok (.freturn, 1) → k ≤ mc → n ≤ ms → post (some (.float x)) F z → xX P Θ pc L [.float x] F z k n
theorem xM_d {P : xP} {Y : xY} {av : List Value} {F : xF} {z mc ms : Nat} {post : Option Value → xF → Nat → Prop} (hy : plainFor Y.1 = true) (hlen : (lg_sl av).length ≤ Y.2.2.1) {L0 : List (Option Value)} (hL : xL0 av Y.2.2.1 = L0) (hr : Y.2.2.2.1 = some .double)
    (body : ∀ Θ : xT, xC P Θ Y.2.1 Y.1.cls Y.2.2.1 Y.2.2.2.2 mc ms → xRd P Θ Y.2.1 mc ms post → xX P Θ 0 L0 [] F z 0 0) : xM P Y av F z mc ms post := by
  refine xM_body hy hlen hL fun Θ hC hnm hrt hQ => body Θ hC ?_
  obtain ⟨p, e, R, s, m, args, below, meth, c, Q⟩ := Θ
  intro pc L F1 z1 k n x hd hk hn hp H locs ls hW hl hx
  dsimp only at hQ hrt ⊢
  subst hQ
  refine W.widen hk hn ?_
  exact W.dret hC.1 hC.2.1 (hrt.trans hr) (fun t ht hWm => ⟨some (.double x), F1, z1, rfl, hp, by rw [ht]; exact hW⟩) hl hd hC.2.2.2.2.2.2.2
theorem xM_f {P : xP} {Y : xY} {av : List Value} {F : xF} {z mc ms : Nat} {post : Option Value → xF → Nat → Prop} (hy : plainFor Y.1 = true) (hlen : (lg_sl av).length ≤ Y.2.2.1) {L0 : List (Option Value)} (hL : xL0 av Y.2.2.1 = L0) (hr : Y.2.2.2.1 = some .float)
    (body : ∀ Θ : xT, xC P Θ Y.2.1 Y.1.cls Y.2.2.1 Y.2.2.2.2 mc ms → xRf P Θ Y.2.1 mc ms post → xX P Θ 0 L0 [] F z 0 0) : xM P Y av F z mc ms post := by
  refine xM_body hy hlen hL fun Θ hC hnm hrt hQ => body Θ hC ?_
  obtain ⟨p, e, R, s, m, args, below, meth, c, Q⟩ := Θ
  intro pc L F1 z1 k n x hd hk hn hp H locs ls hW hl hx
  dsimp only at hQ hrt ⊢
  subst hQ
  refine W.widen hk hn ?_
  exact W.fret hC.1 hC.2.1 (hrt.trans hr) (fun t ht hWm => ⟨some (.float x), F1, z1, rfl, hp, by rw [ht]; exact hW⟩) hl hd hC.2.2.2.2.2.2.2
theorem xMx_f {P : xP} {Y : xY} {av : List Value} {F : xF} {z mc ms : Nat} {post : Option Value → xF → Nat → Prop} {postx : String → xF → Nat → Prop} (hy : plainName Y.1.cls = true) (hlen : (lg_sl av).length ≤ Y.2.2.1) {L0 : List (Option Value)} (hL : xL0 av Y.2.2.1 = L0) (hr : Y.2.2.2.1 = some .float)
    (body : ∀ Θ : xT, xC P Θ Y.2.1 Y.1.cls Y.2.2.1 Y.2.2.2.2 mc ms → xRx P Θ mc ms postx → xRf P Θ Y.2.1 mc ms post → xX P Θ 0 L0 [] F z 0 0) : xMx P Y av F z mc ms post postx := by
  refine xMx_body hy hlen hL fun Θ hC hno hrt hQ => body Θ hC ⟨⟨_, hQ⟩, hno⟩ ?_
  obtain ⟨p, e, R, s, m, args, below, meth, c, Q⟩ := Θ
  intro pc L F1 z1 k n x hd hk hn hp H locs ls hW hl hx
  dsimp only at hQ hrt ⊢
  subst hQ
  refine W.widen hk hn (vx_ret ?_)
  exact W.fret hC.1 hC.2.1 (hrt.trans hr) (fun t ht hWm => ⟨some (.float x), F1, z1, rfl, hp, by rw [ht]; exact hW⟩) hl hd hC.2.2.2.2.2.2.2
