/-! rows of the judgement: one an instruction -/
section XR
variable {P : xP} {Θ : xT} {cc : ByteArray} {own : String} {nL d mc ms pc : Nat} {L : List (Option Value)} {st : List Value} {F : xF} {z k n : Nat}
theorem x_iconst (hC : xC P Θ cc own nL d mc ms) {m9 : Int} {v : Int32} (hd : decode cc pc = .ok (.iconst m9, 1)) (hv : Int32.ofInt m9 = v) (kk : xX P Θ (pc + 1) L (.int v :: st) F z k n) : xX P Θ pc L (st) F z k n := fun H locs ls hW hl hx => lv_iconst hC.1 hC.2.1 hd hv (kk H locs ls hW hl hx)
theorem x_bipush (hC : xC P Θ cc own nL d mc ms) {m9 : Int} {v : Int32} (hd : decode cc pc = .ok (.bipush m9, 2)) (hv : (Int8.ofInt m9).toInt32 = v) (kk : xX P Θ (pc + 2) L (.int v :: st) F z k n) : xX P Θ pc L (st) F z k n := fun H locs ls hW hl hx => lv_bipush hC.1 hC.2.1 hd hv (kk H locs ls hW hl hx)
theorem x_sipush (hC : xC P Θ cc own nL d mc ms) {m9 : Int} {v : Int32} (hd : decode cc pc = .ok (.sipush m9, 3)) (hv : (Int16.ofInt m9).toInt32 = v) (kk : xX P Θ (pc + 3) L (.int v :: st) F z k n) : xX P Θ pc L (st) F z k n := fun H locs ls hW hl hx => lv_sipush hC.1 hC.2.1 hd hv (kk H locs ls hW hl hx)
theorem x_lconst (hC : xC P Θ cc own nL d mc ms) {m9 : Fin 2} {v : Int64} (hd : decode cc pc = .ok (.lconst m9, 1)) (hv : Int64.ofNat (m9 : Nat) = v) (kk : xX P Θ (pc + 1) L (.long v :: st) F z k n) : xX P Θ pc L (st) F z k n := fun H locs ls hW hl hx => lv_lconst hC.1 hC.2.1 hd hv (kk H locs ls hW hl hx)
theorem x_iload_n (hC : xC P Θ cc own nL d mc ms) {i9 : Fin 4} {i : Nat} {x : Int32} (hd : decode cc pc = .ok (.iload_n i9, 1)) (hi : (i9 : Nat) = i) (hv : L[i]? = some (some (.int x))) (kk : xX P Θ (pc + 1) L (.int x :: st) F z k n) : xX P Θ pc L (st) F z k n := fun H locs ls hW hl hx => lv_iload_n hC.1 hC.2.1 hd hi (hx.2.2 i _ hv) (kk H locs ls hW hl hx)
theorem x_iload (hC : xC P Θ cc own nL d mc ms) {i : Nat} {x : Int32} (hd : decode cc pc = .ok (.iload i, 2)) (hv : L[i]? = some (some (.int x))) (kk : xX P Θ (pc + 2) L (.int x :: st) F z k n) : xX P Θ pc L (st) F z k n := fun H locs ls hW hl hx => lv_iload hC.1 hC.2.1 hd (hx.2.2 i _ hv) (kk H locs ls hW hl hx)
theorem x_aload_n (hC : xC P Θ cc own nL d mc ms) {i9 : Fin 4} {i : Nat} {x : Nat} (hd : decode cc pc = .ok (.aload_n i9, 1)) (hi : (i9 : Nat) = i) (hv : L[i]? = some (some (.ref x))) (kk : xX P Θ (pc + 1) L (.ref x :: st) F z k n) : xX P Θ pc L (st) F z k n := fun H locs ls hW hl hx => lv_aload_n hC.1 hC.2.1 hd hi (hx.2.2 i _ hv) (kk H locs ls hW hl hx)
theorem x_aload (hC : xC P Θ cc own nL d mc ms) {i : Nat} {x : Nat} (hd : decode cc pc = .ok (.aload i, 2)) (hv : L[i]? = some (some (.ref x))) (kk : xX P Θ (pc + 2) L (.ref x :: st) F z k n) : xX P Θ pc L (st) F z k n := fun H locs ls hW hl hx => lv_aload hC.1 hC.2.1 hd (hx.2.2 i _ hv) (kk H locs ls hW hl hx)
theorem x_fload (hC : xC P Θ cc own nL d mc ms) {i : Nat} {x : UInt32} (hd : decode cc pc = .ok (.fload i, 2)) (hv : L[i]? = some (some (.float x))) (kk : xX P Θ (pc + 2) L (.float x :: st) F z k n) : xX P Θ pc L (st) F z k n := fun H locs ls hW hl hx => lv_fload hC.1 hC.2.1 hd (hx.2.2 i _ hv) (kk H locs ls hW hl hx)
theorem x_dload (hC : xC P Θ cc own nL d mc ms) {i : Nat} {x : UInt64} (hd : decode cc pc = .ok (.dload i, 2)) (hv : L[i]? = some (some (.double x))) (kk : xX P Θ (pc + 2) L (.double x :: st) F z k n) : xX P Θ pc L (st) F z k n := fun H locs ls hW hl hx => lv_dload hC.1 hC.2.1 hd (hx.2.2 i _ hv) (kk H locs ls hW hl hx)
theorem x_aload_nN (hC : xC P Θ cc own nL d mc ms) {i9 : Fin 4} {i : Nat} (hd : decode cc pc = .ok (.aload_n i9, 1)) (hi : (i9 : Nat) = i) (hv : L[i]? = some (some .null)) (kk : xX P Θ (pc + 1) L (.null :: st) F z k n) : xX P Θ pc L (st) F z k n := fun H locs ls hW hl hx => lv_aload_nN hC.1 hC.2.1 hd hi (hx.2.2 i _ hv) (kk H locs ls hW hl hx)
theorem x_iadd (hC : xC P Θ cc own nL d mc ms) {x y v : Int32} (hd : decode cc pc = .ok (.iadd, 1)) (hv : x + y = v) (kk : xX P Θ (pc + 1) L (.int v :: st) F z k n) : xX P Θ pc L (.int y :: .int x :: st) F z k n := by
  subst hv
  exact fun H locs ls hW hl hx => lv_iadd hC.1 hC.2.1 hd (kk H locs ls hW hl hx)
theorem x_isub (hC : xC P Θ cc own nL d mc ms) {x y v : Int32} (hd : decode cc pc = .ok (.isub, 1)) (hv : x - y = v) (kk : xX P Θ (pc + 1) L (.int v :: st) F z k n) : xX P Θ pc L (.int y :: .int x :: st) F z k n := by
  subst hv
  exact fun H locs ls hW hl hx => lv_isub hC.1 hC.2.1 hd (kk H locs ls hW hl hx)
theorem x_imul (hC : xC P Θ cc own nL d mc ms) {x y v : Int32} (hd : decode cc pc = .ok (.imul, 1)) (hv : x * y = v) (kk : xX P Θ (pc + 1) L (.int v :: st) F z k n) : xX P Θ pc L (.int y :: .int x :: st) F z k n := by
  subst hv
  exact fun H locs ls hW hl hx => lv_imul hC.1 hC.2.1 hd (kk H locs ls hW hl hx)
theorem x_iand (hC : xC P Θ cc own nL d mc ms) {x y v : Int32} (hd : decode cc pc = .ok (.iand, 1)) (hv : x &&& y = v) (kk : xX P Θ (pc + 1) L (.int v :: st) F z k n) : xX P Θ pc L (.int y :: .int x :: st) F z k n := by
  subst hv
  exact fun H locs ls hW hl hx => lv_iand hC.1 hC.2.1 hd (kk H locs ls hW hl hx)
theorem x_ior (hC : xC P Θ cc own nL d mc ms) {x y v : Int32} (hd : decode cc pc = .ok (.ior, 1)) (hv : x ||| y = v) (kk : xX P Θ (pc + 1) L (.int v :: st) F z k n) : xX P Θ pc L (.int y :: .int x :: st) F z k n := by
  subst hv
  exact fun H locs ls hW hl hx => lv_ior hC.1 hC.2.1 hd (kk H locs ls hW hl hx)
theorem x_ixor (hC : xC P Θ cc own nL d mc ms) {x y v : Int32} (hd : decode cc pc = .ok (.ixor, 1)) (hv : x ^^^ y = v) (kk : xX P Θ (pc + 1) L (.int v :: st) F z k n) : xX P Θ pc L (.int y :: .int x :: st) F z k n := by
  subst hv
  exact fun H locs ls hW hl hx => lv_ixor hC.1 hC.2.1 hd (kk H locs ls hW hl hx)
theorem x_ishl (hC : xC P Θ cc own nL d mc ms) {x y v : Int32} (hd : decode cc pc = .ok (.ishl, 1)) (hv : x <<< (y &&& 31) = v) (kk : xX P Θ (pc + 1) L (.int v :: st) F z k n) : xX P Θ pc L (.int y :: .int x :: st) F z k n := by
  subst hv
  exact fun H locs ls hW hl hx => lv_ishl hC.1 hC.2.1 hd (kk H locs ls hW hl hx)
theorem x_ishr (hC : xC P Θ cc own nL d mc ms) {x y v : Int32} (hd : decode cc pc = .ok (.ishr, 1)) (hv : x >>> (y &&& 31) = v) (kk : xX P Θ (pc + 1) L (.int v :: st) F z k n) : xX P Θ pc L (.int y :: .int x :: st) F z k n := by
  subst hv
  exact fun H locs ls hW hl hx => lv_ishr hC.1 hC.2.1 hd (kk H locs ls hW hl hx)
theorem x_idiv (hC : xC P Θ cc own nL d mc ms) {x y v : Int32} (hd : decode cc pc = .ok (.idiv, 1)) (h0 : ¬ y = 0) (hv : x / y = v) (kk : xX P Θ (pc + 1) L (.int v :: st) F z k n) : xX P Θ pc L (.int y :: .int x :: st) F z k n := by
  subst hv
  exact fun H locs ls hW hl hx => lv_idiv hC.1 hC.2.1 hd h0 (kk H locs ls hW hl hx)
theorem x_irem (hC : xC P Θ cc own nL d mc ms) {x y v : Int32} (hd : decode cc pc = .ok (.irem, 1)) (h0 : ¬ y = 0) (hv : x - x / y * y = v) (kk : xX P Θ (pc + 1) L (.int v :: st) F z k n) : xX P Θ pc L (.int y :: .int x :: st) F z k n := by
  subst hv
  exact fun H locs ls hW hl hx => lv_irem hC.1 hC.2.1 hd h0 (kk H locs ls hW hl hx)
theorem x_iushr (hC : xC P Θ cc own nL d mc ms) {x y v : Int32} (hd : decode cc pc = .ok (.iushr, 1)) (hv : (x.toUInt32 >>> (y.toUInt32 &&& Int32.toUInt32 31)).toInt32 = v) (kk : xX P Θ (pc + 1) L (.int v :: st) F z k n) : xX P Θ pc L (.int y :: .int x :: st) F z k n := fun H locs ls hW hl hx => lv_iushr hC.1 hC.2.1 hd hv (kk H locs ls hW hl hx)
theorem x_ineg (hC : xC P Θ cc own nL d mc ms) {x v : Int32} (hd : decode cc pc = .ok (.ineg, 1)) (hv : -x = v) (kk : xX P Θ (pc + 1) L (.int v :: st) F z k n) : xX P Θ pc L (.int x :: st) F z k n := by
  subst hv
  exact fun H locs ls hW hl hx => lv_ineg hC.1 hC.2.1 hd (kk H locs ls hW hl hx)
theorem x_i2l (hC : xC P Θ cc own nL d mc ms) {x : Int32} {v : Int64} (hd : decode cc pc = .ok (.i2l, 1)) (hv : x.toInt64 = v) (kk : xX P Θ (pc + 1) L (.long v :: st) F z k n) : xX P Θ pc L (.int x :: st) F z k n := fun H locs ls hW hl hx => lv_i2l hC.1 hC.2.1 hd hv (kk H locs ls hW hl hx)
theorem x_i2c (hC : xC P Θ cc own nL d mc ms) {x v : Int32} (hd : decode cc pc = .ok (.i2c, 1)) (hv : (x.toUInt32 % 65536).toInt32 = v) (kk : xX P Θ (pc + 1) L (.int v :: st) F z k n) : xX P Θ pc L (.int x :: st) F z k n := fun H locs ls hW hl hx => lv_i2c hC.1 hC.2.1 hd hv (kk H locs ls hW hl hx)
theorem x_lcmp (hC : xC P Θ cc own nL d mc ms) {x y : Int64} (hd : decode cc pc = .ok (.lcmp, 1)) (kk : xX P Θ (pc + 1) L (.int (lg_cmp x y) :: st) F z k n) : xX P Θ pc L (.long y :: .long x :: st) F z k n := fun H locs ls hW hl hx => W.lcmp hC.1 hC.2.1 hd (kk H locs ls hW hl hx)
theorem x_dup (hC : xC P Θ cc own nL d mc ms) {va : Value} (hd : decode cc pc = .ok (.dup, 1)) (hc : va.category = 1) (kk : xX P Θ (pc + 1) L (va :: va :: st) F z k n) : xX P Θ pc L (va :: st) F z k n := fun H locs ls hW hl hx => lv_dup hC.1 hC.2.1 hd hc (kk H locs ls hW hl hx)
theorem x_pop (hC : xC P Θ cc own nL d mc ms) {va : Value} (hd : decode cc pc = .ok (.pop, 1)) (hc : va.category = 1) (kk : xX P Θ (pc + 1) L (st) F z k n) : xX P Θ pc L (va :: st) F z k n := fun H locs ls hW hl hx => lv_pop hC.1 hC.2.1 hd hc (kk H locs ls hW hl hx)
theorem x_dup2 (hC : xC P Θ cc own nL d mc ms) {va vb : Value} (hd : decode cc pc = .ok (.dup2, 1)) (hc : va.category = 1) (hc2 : vb.category = 1) (kk : xX P Θ (pc + 1) L (va :: vb :: va :: vb :: st) F z k n) : xX P Θ pc L (va :: vb :: st) F z k n := fun H locs ls hW hl hx => lv_dup2_11 hC.1 hC.2.1 hd hc hc2 (kk H locs ls hW hl hx)
theorem x_null (hC : xC P Θ cc own nL d mc ms) (hd : decode cc pc = .ok (.aconst_null, 1)) (kk : xX P Θ (pc + 1) L (.null :: st) F z k n) : xX P Θ pc L (st) F z k n := fun H locs ls hW hl hx => lv_null hC.1 hC.2.1 hd (kk H locs ls hW hl hx)
theorem x_istore_n (hC : xC P Θ cc own nL d mc ms) {i9 : Fin 4} {i : Nat} {x : Int32} (hd : decode cc pc = .ok (.istore_n i9, 1)) (hi : (i9 : Nat) = i) (hn : i < L.length) {L1 : List (Option Value)} (hL : xset L i (.int x) = L1) (kk : xX P Θ (pc + 1) L1 st F z k n) : xX P Θ pc L ((.int x) :: st) F z k n := by
  subst hL
  subst hi
  intro H locs ls hW hl hx
  obtain ⟨ls1, e1, h1⟩ := xl_store (v := .int x) hx hn rfl
  intro T hT X
  obtain ⟨t, a, b⟩ := kk H locs ls1 hW hl h1 T hT X
  refine ⟨t, ?_, b⟩
  jvm_step X.here [X.here.top, ↓top_set X.here.top, hC.1, hC.2.1, hd, e1]
  exact a
theorem x_istore (hC : xC P Θ cc own nL d mc ms) {i : Nat} {x : Int32} (hd : decode cc pc = .ok (.istore i, 2)) (hn : i < L.length) {L1 : List (Option Value)} (hL : xset L i (.int x) = L1) (kk : xX P Θ (pc + 2) L1 st F z k n) : xX P Θ pc L ((.int x) :: st) F z k n := by
  subst hL
  intro H locs ls hW hl hx
  obtain ⟨ls1, e1, h1⟩ := xl_store (v := .int x) hx hn rfl
  intro T hT X
  obtain ⟨t, a, b⟩ := kk H locs ls1 hW hl h1 T hT X
  refine ⟨t, ?_, b⟩
  jvm_step X.here [X.here.top, ↓top_set X.here.top, hC.1, hC.2.1, hd, e1]
  exact a
theorem x_astore_n (hC : xC P Θ cc own nL d mc ms) {i9 : Fin 4} {i : Nat} {x : Nat} (hd : decode cc pc = .ok (.astore_n i9, 1)) (hi : (i9 : Nat) = i) (hn : i < L.length) {L1 : List (Option Value)} (hL : xset L i (.ref x) = L1) (kk : xX P Θ (pc + 1) L1 st F z k n) : xX P Θ pc L ((.ref x) :: st) F z k n := by
  subst hL
  subst hi
  intro H locs ls hW hl hx
  obtain ⟨ls1, e1, h1⟩ := xl_store (v := .ref x) hx hn rfl
  intro T hT X
  obtain ⟨t, a, b⟩ := kk H locs ls1 hW hl h1 T hT X
  refine ⟨t, ?_, b⟩
  jvm_step X.here [X.here.top, ↓top_set X.here.top, hC.1, hC.2.1, hd, e1]
  exact ⟨rfl, a⟩
theorem x_astore (hC : xC P Θ cc own nL d mc ms) {i : Nat} {x : Nat} (hd : decode cc pc = .ok (.astore i, 2)) (hn : i < L.length) {L1 : List (Option Value)} (hL : xset L i (.ref x) = L1) (kk : xX P Θ (pc + 2) L1 st F z k n) : xX P Θ pc L ((.ref x) :: st) F z k n := by
  subst hL
  intro H locs ls hW hl hx
  obtain ⟨ls1, e1, h1⟩ := xl_store (v := .ref x) hx hn rfl
  intro T hT X
  obtain ⟨t, a, b⟩ := kk H locs ls1 hW hl h1 T hT X
  refine ⟨t, ?_, b⟩
  jvm_step X.here [X.here.top, ↓top_set X.here.top, hC.1, hC.2.1, hd, e1]
  exact ⟨rfl, a⟩
theorem x_astore_nN (hC : xC P Θ cc own nL d mc ms) {i9 : Fin 4} {i : Nat} (hd : decode cc pc = .ok (.astore_n i9, 1)) (hi : (i9 : Nat) = i) (hn : i < L.length) {L1 : List (Option Value)} (hL : xset L i .null = L1) (kk : xX P Θ (pc + 1) L1 st F z k n) : xX P Θ pc L (.null :: st) F z k n := by
  subst hL
  subst hi
  intro H locs ls hW hl hx
  obtain ⟨ls1, e1, h1⟩ := xl_store (v := .null) hx hn rfl
  intro T hT X
  obtain ⟨t, a, b⟩ := kk H locs ls1 hW hl h1 T hT X
  refine ⟨t, ?_, b⟩
  jvm_step X.here [X.here.top, ↓top_set X.here.top, hC.1, hC.2.1, hd, e1]
  exact ⟨rfl, a⟩
theorem x_astoreN (hC : xC P Θ cc own nL d mc ms) {i : Nat} (hd : decode cc pc = .ok (.astore i, 2)) (hn : i < L.length) {L1 : List (Option Value)} (hL : xset L i .null = L1) (kk : xX P Θ (pc + 2) L1 st F z k n) : xX P Θ pc L (.null :: st) F z k n := by
  subst hL
  intro H locs ls hW hl hx
  obtain ⟨ls1, e1, h1⟩ := xl_store (v := .null) hx hn rfl
  intro T hT X
  obtain ⟨t, a, b⟩ := kk H locs ls1 hW hl h1 T hT X
  refine ⟨t, ?_, b⟩
  jvm_step X.here [X.here.top, ↓top_set X.here.top, hC.1, hC.2.1, hd, e1]
  exact ⟨rfl, a⟩
theorem x_fstore (hC : xC P Θ cc own nL d mc ms) {i : Nat} {x : UInt32} (hd : decode cc pc = .ok (.fstore i, 2)) (hn : i < L.length) {L1 : List (Option Value)} (hL : xset L i (.float x) = L1) (kk : xX P Θ (pc + 2) L1 st F z k n) : xX P Θ pc L ((.float x) :: st) F z k n := by
  subst hL
  intro H locs ls hW hl hx
  obtain ⟨ls1, e1, h1⟩ := xl_store (v := .float x) hx hn rfl
  intro T hT X
  obtain ⟨t, a, b⟩ := kk H locs ls1 hW hl h1 T hT X
  refine ⟨t, ?_, b⟩
  jvm_step X.here [X.here.top, ↓top_set X.here.top, hC.1, hC.2.1, hd, e1, Op.fstore.sem]
  exact a
theorem x_dstore (hC : xC P Θ cc own nL d mc ms) {i : Nat} {x : UInt64} (hd : decode cc pc = .ok (.dstore i, 2)) (hn : i + 1 < L.length) {L1 : List (Option Value)} (hL : xset2 L i (.double x) = L1) (kk : xX P Θ (pc + 2) L1 st F z k n) : xX P Θ pc L ((.double x) :: st) F z k n := by
  subst hL
  intro H locs ls hW hl hx
  obtain ⟨ls1, e1, h1⟩ := xl_store2 (v := .double x) hx hn rfl
  intro T hT X
  obtain ⟨t, a, b⟩ := kk H locs ls1 hW hl h1 T hT X
  refine ⟨t, ?_, b⟩
  jvm_step X.here [X.here.top, ↓top_set X.here.top, hC.1, hC.2.1, hd, e1, Op.dstore.sem]
  exact a
theorem x_iinc (hC : xC P Θ cc own nL d mc ms) {i : Nat} {m9 : Int} {x v : Int32} (hd : decode cc pc = .ok (.iinc i m9, 3)) (hg : L[i]? = some (some (.int x))) (hv : x + Int32.ofInt m9 = v) (hn : i < L.length) {L1 : List (Option Value)} (hL : xset L i (.int v) = L1) (kk : xX P Θ (pc + 3) L1 st F z k n) : xX P Θ pc L st F z k n := by
  subst hL
  subst hv
  intro H locs ls hW hl hx
  have hg1 := hx.2.2 i _ hg
  obtain ⟨ls1, e1, h1⟩ := xl_store (v := .int (x + Int32.ofInt m9)) hx hn rfl
  intro T hT X
  obtain ⟨t, a, b⟩ := kk H locs ls1 hW hl h1 T hT X
  refine ⟨t, ?_, b⟩
  jvm_step X.here [X.here.top, ↓top_set X.here.top, hC.1, hC.2.1, hd, hg1, e1]
  exact a
theorem x_if_eq (hC : xC P Θ cc own nL d mc ms) {x : Int32} {off : Int} {tgt : Nat} (hd : decode cc pc = .ok (.ifCond .eq off, 3)) (ht : (pc : Int) + off = (tgt : Int)) (kt : x = 0 → xX P Θ tgt L st F z k n) (kf : ¬ x = 0 → xX P Θ (pc + 3) L st F z k n) : xX P Θ pc L (.int x :: st) F z k n := fun H locs ls hW hl hx => lv_if_eq hC.1 hC.2.1 hd ht (fun c9 => kt c9 H locs ls hW hl hx) (fun c9 => kf c9 H locs ls hW hl hx)
theorem x_icmp_eq (hC : xC P Θ cc own nL d mc ms) {x y : Int32} {off : Int} {tgt : Nat} (hd : decode cc pc = .ok (.if_icmp .eq off, 3)) (ht : (pc : Int) + off = (tgt : Int)) (kt : x = y → xX P Θ tgt L st F z k n) (kf : ¬ x = y → xX P Θ (pc + 3) L st F z k n) : xX P Θ pc L (.int y :: .int x :: st) F z k n := fun H locs ls hW hl hx => lv_icmp_eq hC.1 hC.2.1 hd ht (fun c9 => kt c9 H locs ls hW hl hx) (fun c9 => kf c9 H locs ls hW hl hx)
theorem x_if_ne (hC : xC P Θ cc own nL d mc ms) {x : Int32} {off : Int} {tgt : Nat} (hd : decode cc pc = .ok (.ifCond .ne off, 3)) (ht : (pc : Int) + off = (tgt : Int)) (kt : ¬ x = 0 → xX P Θ tgt L st F z k n) (kf : x = 0 → xX P Θ (pc + 3) L st F z k n) : xX P Θ pc L (.int x :: st) F z k n := fun H locs ls hW hl hx => lv_if_ne hC.1 hC.2.1 hd ht (fun c9 => kt c9 H locs ls hW hl hx) (fun c9 => kf c9 H locs ls hW hl hx)
theorem x_icmp_ne (hC : xC P Θ cc own nL d mc ms) {x y : Int32} {off : Int} {tgt : Nat} (hd : decode cc pc = .ok (.if_icmp .ne off, 3)) (ht : (pc : Int) + off = (tgt : Int)) (kt : ¬ x = y → xX P Θ tgt L st F z k n) (kf : x = y → xX P Θ (pc + 3) L st F z k n) : xX P Θ pc L (.int y :: .int x :: st) F z k n := fun H locs ls hW hl hx => lv_icmp_ne hC.1 hC.2.1 hd ht (fun c9 => kt c9 H locs ls hW hl hx) (fun c9 => kf c9 H locs ls hW hl hx)
theorem x_if_lt (hC : xC P Θ cc own nL d mc ms) {x : Int32} {off : Int} {tgt : Nat} (hd : decode cc pc = .ok (.ifCond .lt off, 3)) (ht : (pc : Int) + off = (tgt : Int)) (kt : x < 0 → xX P Θ tgt L st F z k n) (kf : ¬ x < 0 → xX P Θ (pc + 3) L st F z k n) : xX P Θ pc L (.int x :: st) F z k n := fun H locs ls hW hl hx => lv_if_lt hC.1 hC.2.1 hd ht (fun c9 => kt c9 H locs ls hW hl hx) (fun c9 => kf c9 H locs ls hW hl hx)
theorem x_icmp_lt (hC : xC P Θ cc own nL d mc ms) {x y : Int32} {off : Int} {tgt : Nat} (hd : decode cc pc = .ok (.if_icmp .lt off, 3)) (ht : (pc : Int) + off = (tgt : Int)) (kt : x < y → xX P Θ tgt L st F z k n) (kf : ¬ x < y → xX P Θ (pc + 3) L st F z k n) : xX P Θ pc L (.int y :: .int x :: st) F z k n := fun H locs ls hW hl hx => lv_icmp_lt hC.1 hC.2.1 hd ht (fun c9 => kt c9 H locs ls hW hl hx) (fun c9 => kf c9 H locs ls hW hl hx)
theorem x_if_ge (hC : xC P Θ cc own nL d mc ms) {x : Int32} {off : Int} {tgt : Nat} (hd : decode cc pc = .ok (.ifCond .ge off, 3)) (ht : (pc : Int) + off = (tgt : Int)) (kt : 0 ≤ x → xX P Θ tgt L st F z k n) (kf : ¬ 0 ≤ x → xX P Θ (pc + 3) L st F z k n) : xX P Θ pc L (.int x :: st) F z k n := fun H locs ls hW hl hx => lv_if_ge hC.1 hC.2.1 hd ht (fun c9 => kt c9 H locs ls hW hl hx) (fun c9 => kf c9 H locs ls hW hl hx)
theorem x_icmp_ge (hC : xC P Θ cc own nL d mc ms) {x y : Int32} {off : Int} {tgt : Nat} (hd : decode cc pc = .ok (.if_icmp .ge off, 3)) (ht : (pc : Int) + off = (tgt : Int)) (kt : y ≤ x → xX P Θ tgt L st F z k n) (kf : ¬ y ≤ x → xX P Θ (pc + 3) L st F z k n) : xX P Θ pc L (.int y :: .int x :: st) F z k n := fun H locs ls hW hl hx => lv_icmp_ge hC.1 hC.2.1 hd ht (fun c9 => kt c9 H locs ls hW hl hx) (fun c9 => kf c9 H locs ls hW hl hx)
theorem x_if_gt (hC : xC P Θ cc own nL d mc ms) {x : Int32} {off : Int} {tgt : Nat} (hd : decode cc pc = .ok (.ifCond .gt off, 3)) (ht : (pc : Int) + off = (tgt : Int)) (kt : 0 < x → xX P Θ tgt L st F z k n) (kf : ¬ 0 < x → xX P Θ (pc + 3) L st F z k n) : xX P Θ pc L (.int x :: st) F z k n := fun H locs ls hW hl hx => lv_if_gt hC.1 hC.2.1 hd ht (fun c9 => kt c9 H locs ls hW hl hx) (fun c9 => kf c9 H locs ls hW hl hx)
theorem x_icmp_gt (hC : xC P Θ cc own nL d mc ms) {x y : Int32} {off : Int} {tgt : Nat} (hd : decode cc pc = .ok (.if_icmp .gt off, 3)) (ht : (pc : Int) + off = (tgt : Int)) (kt : y < x → xX P Θ tgt L st F z k n) (kf : ¬ y < x → xX P Θ (pc + 3) L st F z k n) : xX P Θ pc L (.int y :: .int x :: st) F z k n := fun H locs ls hW hl hx => lv_icmp_gt hC.1 hC.2.1 hd ht (fun c9 => kt c9 H locs ls hW hl hx) (fun c9 => kf c9 H locs ls hW hl hx)
theorem x_if_le (hC : xC P Θ cc own nL d mc ms) {x : Int32} {off : Int} {tgt : Nat} (hd : decode cc pc = .ok (.ifCond .le off, 3)) (ht : (pc : Int) + off = (tgt : Int)) (kt : x ≤ 0 → xX P Θ tgt L st F z k n) (kf : ¬ x ≤ 0 → xX P Θ (pc + 3) L st F z k n) : xX P Θ pc L (.int x :: st) F z k n := fun H locs ls hW hl hx => lv_if_le hC.1 hC.2.1 hd ht (fun c9 => kt c9 H locs ls hW hl hx) (fun c9 => kf c9 H locs ls hW hl hx)
theorem x_icmp_le (hC : xC P Θ cc own nL d mc ms) {x y : Int32} {off : Int} {tgt : Nat} (hd : decode cc pc = .ok (.if_icmp .le off, 3)) (ht : (pc : Int) + off = (tgt : Int)) (kt : x ≤ y → xX P Θ tgt L st F z k n) (kf : ¬ x ≤ y → xX P Θ (pc + 3) L st F z k n) : xX P Θ pc L (.int y :: .int x :: st) F z k n := fun H locs ls hW hl hx => lv_icmp_le hC.1 hC.2.1 hd ht (fun c9 => kt c9 H locs ls hW hl hx) (fun c9 => kf c9 H locs ls hW hl hx)
theorem x_goto (hC : xC P Θ cc own nL d mc ms) {off : Int} {tgt : Nat} (hd : decode cc pc = .ok (.goto off, 3)) (ht : (pc : Int) + off = (tgt : Int)) (kk : xX P Θ tgt L st F z k n) : xX P Θ pc L st F z k n := fun H locs ls hW hl hx => lv_goto hC.1 hC.2.1 hd ht (kk H locs ls hW hl hx)
theorem x_tableIn (hC : xC P Θ cc own nL d mc ms) {dflt lo hi : Int} {offs : Array Int} {len : Nat} {x : Int32} {off : Int} {tgt : Nat} (hd : decode cc pc = .ok (.tableswitch dflt lo hi offs, len)) (h1 : ¬ x.toInt < lo) (h2 : ¬ hi < x.toInt) (ho : offs[(x.toInt - lo).toNat]? = some off) (ht : (pc : Int) + off = (tgt : Int)) (kk : xX P Θ tgt L st F z k n) : xX P Θ pc L (.int x :: st) F z k n := fun H locs ls hW hl hx => lv_tableIn hC.1 hC.2.1 hd h1 h2 ho ht (kk H locs ls hW hl hx)
theorem x_tableOut (hC : xC P Θ cc own nL d mc ms) {dflt lo hi : Int} {offs : Array Int} {len : Nat} {x : Int32} {tgt : Nat} (hd : decode cc pc = .ok (.tableswitch dflt lo hi offs, len)) (h1 : x.toInt < lo ∨ hi < x.toInt) (ht : (pc : Int) + dflt = (tgt : Int)) (kk : xX P Θ tgt L st F z k n) : xX P Θ pc L (.int x :: st) F z k n := fun H locs ls hW hl hx => lv_tableOut hC.1 hC.2.1 hd h1 ht (kk H locs ls hW hl hx)
theorem x_lookup (hC : xC P Θ cc own nL d mc ms) {dflt : Int} {ps : Array (Int × Int)} {len : Nat} {x : Int32} {off : Int} {tgt : Nat} (hd : decode cc pc = .ok (.lookupswitch dflt ps, len)) (hp : (ps.toList.zip (ps.toList.drop 1)).all (fun (a, next) => a.1 < next.1) = true) (ho : Op.lookupswitch.offset ps.toList dflt x.toInt = off) (ht : (pc : Int) + off = (tgt : Int)) (kk : xX P Θ tgt L st F z k n) : xX P Θ pc L (.int x :: st) F z k n := fun H locs ls hW hl hx => lv_lookup hC.1 hC.2.1 hd hp ho ht (kk H locs ls hW hl hx)
theorem x_ifnonnull (hC : xC P Θ cc own nL d mc ms) {x : Nat} {off : Int} {tgt : Nat} (hd : decode cc pc = .ok (.ifnonnull off, 3)) (ht : (pc : Int) + off = (tgt : Int)) (kk : xX P Θ tgt L st F z k n) : xX P Θ pc L (.ref x :: st) F z k n := fun H locs ls hW hl hx => lv_ifnonnull hC.1 hC.2.1 hd ht (kk H locs ls hW hl hx)
theorem x_ifnonnullN (hC : xC P Θ cc own nL d mc ms) {off : Int} (hd : decode cc pc = .ok (.ifnonnull off, 3)) (kk : xX P Θ (pc + 3) L st F z k n) : xX P Θ pc L (.null :: st) F z k n := fun H locs ls hW hl hx => lv_ifnonnullN hC.1 hC.2.1 hd (kk H locs ls hW hl hx)
theorem x_acmp_ne (hC : xC P Θ cc own nL d mc ms) {x y : Nat} {off : Int} {tgt : Nat} (hd : decode cc pc = .ok (.if_acmp .ne off, 3)) (ht : (pc : Int) + off = (tgt : Int)) (kt : ¬ x = y → xX P Θ tgt L st F z k n) (kf : x = y → xX P Θ (pc + 3) L st F z k n) : xX P Θ pc L (.ref y :: .ref x :: st) F z k n := fun H locs ls hW hl hx => lv_acmp_ne (rx := some x) (ry := some y) hC.1 hC.2.1 hd ht (fun c9 => kt (fun e => c9 (by rw [e])) H locs ls hW hl hx) (fun c9 => kf (Option.some.inj c9) H locs ls hW hl hx)
theorem x_acmp_eq (hC : xC P Θ cc own nL d mc ms) {x y : Nat} {off : Int} {tgt : Nat} (hd : decode cc pc = .ok (.if_acmp .eq off, 3)) (ht : (pc : Int) + off = (tgt : Int)) (kt : x = y → xX P Θ tgt L st F z k n) (kf : ¬ x = y → xX P Θ (pc + 3) L st F z k n) : xX P Θ pc L (.ref y :: .ref x :: st) F z k n := fun H locs ls hW hl hx => lv_acmp_eq (rx := some x) (ry := some y) hC.1 hC.2.1 hd ht (fun c9 => kt (Option.some.inj c9) H locs ls hW hl hx) (fun c9 => kf (fun e => c9 (by rw [e])) H locs ls hW hl hx)
/-! the heap -/
/-- a class's facts: its place, its layout's words, the types of its fields, names apart -/
def xCl (ci : Nat) (C : String) (T : u_T) (N : Nat) (tf : Nat → FieldType) : Prop := xcl[ci]? = some (C, T, N) ∧ (∀ w ∈ u_ws C T N, w ∈ x_tbl) ∧ (∀ j, j < N → parseFieldDescriptor (T j).2.2.1 = some (tf j)) ∧ ∀ a, a < N → ∀ b, b < N → a ≠ b → (T a).2.1 ≠ (T b).2.1
/-- a field's entry in the pool of own: the j-th field of the class ci, of type ty, final or not, declared by dcl -/
def xLF (own : String) (index ci j : Nat) (ty : FieldType) (fin : Bool) (dcl : String) : Prop := ∃ (C : String) (T : u_T) (N : Nat) (tf : Nat → FieldType), xCl ci C T N tf ∧ j < N ∧ tf j = ty ∧ (T j).2.2.2 = fin ∧ (T j).1 = dcl ∧ (Cond.fieldLink own index (T j).1 (T j).2.1 (T j).2.2.1 ∈ x_tbl ∨ ∃ host : String, Cond.fieldLinkNest own index (T j).1 (T j).2.1 (T j).2.2.1 host ∈ x_nst)
/-- an index within -/
def xix (i : Int32) (N j : Nat) : Prop := i = nI j ∧ j < N ∧ N < 2 ^ 31
theorem xix_in {i : Int32} {N j : Nat} (h : xix i N j) : vp_in i N := by
  obtain ⟨rfl, h1, h2⟩ := h
  exact vp_in_nI h1 h2
theorem xix_cl {i : Int32} {N j : Nat} (h : xix i N j) : i.toNatClampNeg = j := by
  obtain ⟨rfl, h1, h2⟩ := h
  exact nI_clamp (by omega)
theorem x_one {G : xG} {a : Nat} {e : Nat × List Value} {H : Heap} (h : xat G a (.inl e) H) : va_P (G.1, G.2.1) xcl [(a, .inr e)] H := fun q x hq => by
  have h0 : q < 1 := (List.getElem?_eq_some_iff.mp hq).1
  rw [show q = 0 by omega] at hq
  cases hq
  exact h
theorem x_kk {P : xP} {U : State} (h : xK P U) : va_K (P.2.1.1, P.2.1.2.1) xcl [] U := ⟨h.1, fun k q hq => by simp at hq⟩
theorem x_getf (hC : xC P Θ cc own nL d mc ms) {index ci j a : Nat} {ty : FieldType} {fin : Bool} {dcl : String} {fs : List Value} {v : Value} (hk : xLF own index ci j ty fin dcl) (ha : F a = some (.inl (ci, fs))) (hv : fs[j]? = some v) (hd : decode cc pc = .ok (.getfield index, 3)) (kk : xX P Θ (pc + 3) L (v :: st) F z k n) : xX P Θ pc L (.ref a :: st) F z k n := by
  obtain ⟨C, T, N, tf, ⟨h1, h2, h3, h4⟩, h5, h6, h7, h8, h9⟩ := hk
  intro H locs ls hW hl hx
  have hP := x_one (hW.2.2.2.2 a _ ha).2
  rcases h9 with h9 | ⟨host, h9⟩
  · exact va_get hC.1 hC.2.1 hC.2.2.2.2.1 h2 hC.2.2.2.1 (x_kk hC.2.2.2.2.2.1) hP 0 rfl h1 j h5 (hC.2.2.2.2.1 _ h9) (fun _ h => h) hv hd (kk H locs ls hW hl hx)
  · exact va_getN hC.1 hC.2.1 hC.2.2.2.2.1 h2 hC.2.2.2.1 (x_kk hC.2.2.2.2.2.1) hP 0 rfl h1 j h5 (va_Nw.use rfl (hC.2.2.2.2.2.1.2.2.1 _ h9)) (fun _ h => h) hv hd (kk H locs ls hW hl hx)
theorem x_wput {a : Nat} {e0 e : xE} {H0 H H1 : Heap} {locs : List Loc} (hW : xW P F z H) (ha : F a = some e0) (hs : va_S (fun q => q = a) H H1 locs) (hz : H1.size = H.size) (he : xat P.2.1 a e H1) : xW P (xup F a e) z H1 :=
  xW_up hW ha hz (fun q hq => by
    by_cases hl : q < H.size
    · exact hs.2.1 q hl hq
    · rw [Array.getElem?_eq_none (by omega), Array.getElem?_eq_none (by omega)]) he
theorem x_putf (hC : xC P Θ cc own nL d mc ms) {index ci j a : Nat} {ty : FieldType} {dcl : String} {fs fs1 : List Value} {v : Value} (hk : xLF own index ci j ty false dcl) (ha : F a = some (.inl (ci, fs))) (hl9 : j < fs.length) (hn : narrow ty v = v) (hf : fits ty v = true) (hd : decode cc pc = .ok (.putfield index, 3)) (hfs : fs.set j v = fs1) (kk : xX P Θ (pc + 3) L st (xup F a (.inl (ci, fs1))) z k n) : xX P Θ pc L (v :: .ref a :: st) F z k n := by
  subst hfs
  obtain ⟨C, T, N, tf, ⟨h1, h2, h3, h4⟩, h5, h6, h7, h8, h9⟩ := hk
  intro H locs ls hW hl hx
  obtain ⟨hlow, hat⟩ := hW.2.2.2.2 a _ ha
  have hP := x_one hat
  have hKc := x_kk hC.2.2.2.2.2.1
  have hap := va_apart (own := own) hC.2.2.2.2.1 h2 tf h3 h4 hKc h1
  obtain ⟨r, g1, cell, q1, q2, q3, q4⟩ := hP 0 _ rfl
  have hr : r = (C, T, N) := Option.some.inj (g1.symm.trans h1)
  subst hr
  obtain ⟨hS, hfc, kC, hkC, hkind⟩ := hKc.1 ci _ h1
  obtain ⟨cf, kf, fi, f, hi, hsl⟩ := hS j h5
  have hlay := hC.2.2.2.2.1 _ (h2 _ (u_in_lay h5))
  unfold u_lay at hlay
  rw [if_neg (by rw [h7]; decide)] at hlay
  have hst := (u_facts hfc hkC (u_lays hC.2.2.2.2.1 h2 h5) hi).1
  have h6' := u_store hfc hkC hkind hlay hi (h3 j h5) (by rw [h6]; exact hn) (by rw [h6]; exact hf)
  have key : ∀ H1 : Heap, H1[a]? = some (cell.setSlot f.slot v) → H1.size = H.size → (∀ q, q ≠ a → H1[q]? = H[q]?) → W Θ.1 P.1 Θ.2.1 Θ.2.2.1 Θ.2.2.2.1 Θ.2.2.2.2.1 Θ.2.2.2.2.2.1 Θ.2.2.2.2.2.2.1 Θ.2.2.2.2.2.2.2.1 Θ.2.2.2.2.2.2.2.2.1 H1 (locs ++ [⟨a, f.slot⟩]) k n Θ.2.2.2.2.2.2.2.2.2 (F0 Θ.2.2.2.2.1 (pc + 3) ls st) := by
    intro H1 e1 e2 e3
    refine kk H1 _ ls (xW_up hW ha e2 e3 ?_) (fun q hq => ?_) hx
    · rw [hsl] at e1
      exact ⟨_, h1, t_OB.to (V := updV (vp_V fs) j v) ⟨_, e1, q2, q3, t_set q4 hap h5 v⟩ (fun j9 _ => vp_updV_set hl9 v j9)⟩
    · rcases List.mem_append.mp hq with hq | hq
      · exact hl q hq
      · rw [List.mem_singleton.mp hq]; exact hlow
  rcases h9 with h9 | ⟨host, h9⟩
  · exact W.putK hC.1 hC.2.1 (f := f) ⟨hC.2.2.2.1, hC.2.2.2.2.1 _ h9, ⟨_, _, _, hi⟩, hst⟩ (by rw [q2]; exact h6') q1 q3 (by rw [hsl]; exact k2_hasslot (q4 j h5)) rfl rfl hd key
  · exact va_WputK hC.1 hC.2.1 (f := f) hC.2.2.2.1 (va_Nw.use rfl (hC.2.2.2.2.2.1.2.2.1 _ h9)) hi hst (by rw [q2]; exact h6') q1 q3 (by rw [hsl]; exact k2_hasslot (q4 j h5)) rfl rfl hd key
/-- a final field that its own class's constructor sets -/
def xLK (own : String) (index ci j : Nat) (ty : FieldType) : Prop := ∃ (C : String) (T : u_T) (N : Nat) (tf : Nat → FieldType), xCl ci C T N tf ∧ j < N ∧ tf j = ty ∧ (T j).2.2.2 = true ∧ (T j).1 = own ∧ Cond.fieldLink own index (T j).1 (T j).2.1 (T j).2.2.1 ∈ x_tbl
theorem x_putF (hC : xC P Θ cc own nL d mc ms) (hin : Θ.2.2.2.2.2.2.2.1.name = "<init>") {index ci j a : Nat} {ty : FieldType} {fs fs1 : List Value} {v : Value} (hk : xLK own index ci j ty) (ha : F a = some (.inl (ci, fs))) (hl9 : j < fs.length) (hn : narrow ty v = v) (hf : fits ty v = true) (hd : decode cc pc = .ok (.putfield index, 3)) (hfs : fs.set j v = fs1) (kk : xX P Θ (pc + 3) L st (xup F a (.inl (ci, fs1))) z k n) : xX P Θ pc L (v :: .ref a :: st) F z k n := by
  subst hfs
  obtain ⟨C, T, N, tf, ⟨h1, h2, h3, h4⟩, h5, h6, h7, h8, h9⟩ := hk
  intro H locs ls hW hl hx
  obtain ⟨hlow, hat⟩ := hW.2.2.2.2 a _ ha
  have hP := x_one hat
  have hKc := x_kk hC.2.2.2.2.2.1
  have hap := va_apart (own := own) hC.2.2.2.2.1 h2 tf h3 h4 hKc h1
  obtain ⟨r, g1, cell, q1, q2, q3, q4⟩ := hP 0 _ rfl
  have hr : r = (C, T, N) := Option.some.inj (g1.symm.trans h1)
  subst hr
  obtain ⟨hS, hfc, kC, hkC, hkind⟩ := hKc.1 ci _ h1
  obtain ⟨cf, kf, fi, f, hi, hsl⟩ := hS j h5
  have hlay := hC.2.2.2.2.1 _ (h2 _ (u_in_lay h5))
  unfold u_lay at hlay
  rw [if_pos h7] at hlay
  have hst := (u_facts hfc hkC (u_lays hC.2.2.2.2.1 h2 h5) hi).1
  have hcf : Θ.2.2.2.2.1.cls = cf := by
    obtain ⟨_, _, c', _, _, _, -, -, hf', -, -, -, hown2, -⟩ := Cond.laysFinal_spec hlay
    have e1 : c' = cf := by have := hi.symm.trans hf'; simp at this; exact this.1.symm
    rw [h8] at hown2
    rw [← e1]; exact Option.some.inj (hC.2.2.2.1.symm.trans hown2)
  have h6' := u_fits hfc hkC hkind (Or.inr hlay) hi (h3 j h5) (by rw [h6]; exact hn) (by rw [h6]; exact hf)
  refine W.putFinK hC.1 hC.2.1 hC.2.2.2.1 (hC.2.2.2.2.1 _ h9) hi hst hcf hin (by rw [q2]; exact h6') q1 q3 (by rw [hsl]; exact k2_hasslot (q4 j h5)) rfl rfl hd fun H1 e1 e2 e3 => ?_
  refine kk H1 _ ls (xW_up hW ha e2 e3 ?_) (fun q hq => ?_) hx
  · rw [hsl] at e1
    exact ⟨_, h1, t_OB.to (V := updV (vp_V fs) j v) ⟨_, e1, q2, q3, t_set q4 hap h5 v⟩ (fun j9 _ => vp_updV_set hl9 v j9)⟩
  · rcases List.mem_append.mp hq with hq | hq
    · exact hl q hq
    · rw [List.mem_singleton.mp hq]; exact hlow
/-! arrays -/
theorem x_ald {a N j : Nat} {f : Nat → Value} {t : Nat} (ha : F a = some (.inr (t, N, f))) {H : Heap} (hW : xW P F z H) : H[a]? = some (arrV (P.2.1.2.2 t) N f) := (hW.2.2.2.2 a _ ha).2
theorem x_alen (hC : xC P Θ cc own nL d mc ms) {a t N : Nat} {f : Nat → Value} {v : Int32} (ha : F a = some (.inr (t, N, f))) (ht : t < 8) (hv : nI N = v) (hd : decode cc pc = .ok (.arraylength, 1)) (kk : xX P Θ (pc + 1) L (.int v :: st) F z k n) : xX P Θ pc L (.ref a :: st) F z k n := by
  intro H locs ls hW hl hx
  exact W.alen hC.1 hC.2.1 (hW.2.2.2.2 a _ ha).2 ((hC.2.2.2.2.2.1.2.1 t ht).1 N f) (by rw [arrV_size]; exact hv) rfl rfl hd (kk H locs ls hW hl hx)
theorem x_iald (hC : xC P Θ cc own nL d mc ms) {a N j : Nat} {g : Nat → Int32} {i : Int32} {x : Int32} (ha : F a = some (.inr (0, N, fun b => .int (g b)))) (hi : xix i N j) (hv : g j = x) (hd : decode cc pc = .ok (.iaload, 1)) (kk : xX P Θ (pc + 1) L (.int x :: st) F z k n) : xX P Θ pc L (.int i :: .ref a :: st) F z k n := by
  subst hv
  intro H locs ls hW hl hx
  have h1 := xix_in hi
  have h2 := xix_cl hi
  exact W.iald (v := .int (g j)) hC.1 hC.2.1 (hW.2.2.2.2 a _ ha).2 ((hC.2.2.2.2.2.1.2.1 0 (by decide)).1 N (fun b => .int (g b))) (fun q => by cases q) (by rw [arrV_size]; exact h1) (by rw [h2, arrV_read _ _ hi.2.1]) rfl rfl hd (kk H locs ls hW hl hx)
theorem x_cald (hC : xC P Θ cc own nL d mc ms) {a N j : Nat} {g : Nat → Int32} {i : Int32} {x : Int32} (ha : F a = some (.inr (1, N, fun b => .int (g b)))) (hi : xix i N j) (hv : g j = x) (hd : decode cc pc = .ok (.caload, 1)) (kk : xX P Θ (pc + 1) L (.int x :: st) F z k n) : xX P Θ pc L (.int i :: .ref a :: st) F z k n := by
  subst hv
  intro H locs ls hW hl hx
  have h1 := xix_in hi
  have h2 := xix_cl hi
  exact W.cald (v := .int (g j)) hC.1 hC.2.1 (hW.2.2.2.2 a _ ha).2 ((hC.2.2.2.2.2.1.2.1 1 (by decide)).1 N (fun b => .int (g b))) (fun q => by cases q) (by rw [arrV_size]; exact h1) (by rw [h2, arrV_read _ _ hi.2.1]) rfl rfl hd (kk H locs ls hW hl hx)
theorem x_bald (hC : xC P Θ cc own nL d mc ms) {a N j : Nat} {g : Nat → Int32} {i : Int32} {x : Int32} (ha : F a = some (.inr (2, N, fun b => .int (g b)))) (hi : xix i N j) (hv : g j = x) (hd : decode cc pc = .ok (.baload, 1)) (kk : xX P Θ (pc + 1) L (.int x :: st) F z k n) : xX P Θ pc L (.int i :: .ref a :: st) F z k n := by
  subst hv
  intro H locs ls hW hl hx
  have h1 := xix_in hi
  have h2 := xix_cl hi
  exact W.bald (v := .int (g j)) hC.1 hC.2.1 (hW.2.2.2.2 a _ ha).2 ((hC.2.2.2.2.2.1.2.1 2 (by decide)).1 N (fun b => .int (g b))) (fun q => by cases q) (by rw [arrV_size]; exact h1) (by rw [h2, arrV_read _ _ hi.2.1]) rfl rfl hd (kk H locs ls hW hl hx)
theorem x_iast (hC : xC P Θ cc own nL d mc ms) {a N j : Nat} {g g1 : Nat → Int32} {i : Int32} {x : Int32} (ha : F a = some (.inr (0, N, fun b => .int (g b)))) (hi : xix i N j) (hd : decode cc pc = .ok (.iastore, 1)) (hg : upd g j x = g1) (kk : xX P Θ (pc + 1) L st (xup F a (.inr (0, N, fun b => .int (g1 b)))) z k n) : xX P Θ pc L (.int x :: .int i :: .ref a :: st) F z k n := by
  subst hg
  intro H locs ls hW hl hx
  obtain ⟨hlow, hat⟩ := hW.2.2.2.2 a _ ha
  have h1 := xix_in hi
  have h2 := xix_cl hi
  refine W.iast hC.1 hC.2.1 hat ((hC.2.2.2.2.2.1.2.1 0 (by decide)).1 N (fun b => .int (g b))) (fun q => by cases q) (by rw [arrV_size]; exact h1) rfl rfl hd fun H1 e1 e2 e3 => ?_
  refine kk H1 _ ls (xW_up hW ha e2 e3 ?_) (fun q hq => ?_) hx
  · show H1[a]? = _
    rw [e1, h2, arrV_store]
    congr 2
    funext b
    by_cases e : b = j
    · simp [updV, upd, e]
    · simp [updV, upd, e]
  · rcases List.mem_append.mp hq with hq | hq
    · exact hl q hq
    · rw [List.mem_singleton.mp hq]; exact hlow
theorem x_cast (hC : xC P Θ cc own nL d mc ms) {a N j : Nat} {g g1 : Nat → Int32} {i : Int32} {x : Int32} (ha : F a = some (.inr (1, N, fun b => .int (g b)))) (hi : xix i N j) (hnr : narrow .char (.int x) = .int x) (hd : decode cc pc = .ok (.castore, 1)) (hg : upd g j x = g1) (kk : xX P Θ (pc + 1) L st (xup F a (.inr (1, N, fun b => .int (g1 b)))) z k n) : xX P Θ pc L (.int x :: .int i :: .ref a :: st) F z k n := by
  subst hg
  intro H locs ls hW hl hx
  obtain ⟨hlow, hat⟩ := hW.2.2.2.2 a _ ha
  have h1 := xix_in hi
  have h2 := xix_cl hi
  refine W.cast hC.1 hC.2.1 hat ((hC.2.2.2.2.2.1.2.1 1 (by decide)).1 N (fun b => .int (g b))) (fun q => by cases q) (by rw [arrV_size]; exact h1) rfl rfl hd fun H1 e1 e2 e3 => ?_
  refine kk H1 _ ls (xW_up hW ha e2 e3 ?_) (fun q hq => ?_) hx
  · show H1[a]? = _
    rw [e1, h2, hnr, arrV_store]
    congr 2
    funext b
    by_cases e : b = j
    · simp [updV, upd, e]
    · simp [updV, upd, e]
  · rcases List.mem_append.mp hq with hq | hq
    · exact hl q hq
    · rw [List.mem_singleton.mp hq]; exact hlow
theorem x_bast (hC : xC P Θ cc own nL d mc ms) {a N j : Nat} {g g1 : Nat → Int32} {i : Int32} {x : Int32} (ha : F a = some (.inr (2, N, fun b => .int (g b)))) (hi : xix i N j) (hnr : narrow .byte (.int x) = .int x) (hd : decode cc pc = .ok (.bastore, 1)) (hg : upd g j x = g1) (kk : xX P Θ (pc + 1) L st (xup F a (.inr (2, N, fun b => .int (g1 b)))) z k n) : xX P Θ pc L (.int x :: .int i :: .ref a :: st) F z k n := by
  subst hg
  intro H locs ls hW hl hx
  obtain ⟨hlow, hat⟩ := hW.2.2.2.2 a _ ha
  have h1 := xix_in hi
  have h2 := xix_cl hi
  refine W.bast hC.1 hC.2.1 hat ((hC.2.2.2.2.2.1.2.1 2 (by decide)).1 N (fun b => .int (g b))) (fun q => by cases q) (by rw [arrV_size]; exact h1) rfl rfl hd fun H1 e1 e2 e3 => ?_
  refine kk H1 _ ls (xW_up hW ha e2 e3 ?_) (fun q hq => ?_) hx
  · show H1[a]? = _
    rw [e1, h2, hnr, arrV_store]
    congr 2
    funext b
    by_cases e : b = j
    · simp [updV, upd, e]
    · simp [updV, upd, e]
  · rcases List.mem_append.mp hq with hq | hq
    · exact hl q hq
    · rw [List.mem_singleton.mp hq]; exact hlow
theorem x_aald (hC : xC P Θ cc own nL d mc ms) {a t N j : Nat} {f : Nat → Value} {i : Int32} {x : Value} (ha : F a = some (.inr (t, N, f))) (ht : t < 8) (hr : (xty t).isReference = true) (hi : xix i N j) (hv : f j = x) (hxr : x.isRef = true) (hd : decode cc pc = .ok (.aaload, 1)) (kk : xX P Θ (pc + 1) L (x :: st) F z k n) : xX P Θ pc L (.int i :: .ref a :: st) F z k n := by
  subst hv
  intro H locs ls hW hl hx
  have h1 := xix_in hi
  have h2 := xix_cl hi
  exact W.aald (v := f j) hC.1 hC.2.1 (hW.2.2.2.2 a _ ha).2 ((hC.2.2.2.2.2.1.2.1 t ht).1 N f) hr (fun q => by cases q) (by rw [arrV_size]; exact h1) (by rw [h2, arrV_read _ _ hi.2.1]) rfl rfl hd (kk H locs ls hW hl hx)
theorem x_aast (hC : xC P Θ cc own nL d mc ms) {a t N j v ci nC : Nat} {C : String} {T : u_T} {f f1 : Nat → Value} {fs : List Value} {i : Int32} (ha : F a = some (.inr (t, N, f))) (ht : t < 8) (hty : xty t = .object C) (hv : F v = some (.inl (ci, fs))) (hc : xcl[ci]? = some (C, T, nC)) (hi : xix i N j) (hd : decode cc pc = .ok (.aastore, 1)) (hf : updV f j (.ref v) = f1) (kk : xX P Θ (pc + 1) L st (xup F a (.inr (t, N, f1))) z k n) : xX P Θ pc L (.ref v :: .int i :: .ref a :: st) F z k n := by
  subst hf
  intro H locs ls hW hl hx
  obtain ⟨hlow, hat⟩ := hW.2.2.2.2 a _ ha
  have h1 := xix_in hi
  have h2 := xix_cl hi
  have hra := (hC.2.2.2.2.2.1.2.1 t ht).2
  rw [hty] at hra
  obtain ⟨kA, comp, hkA, hkindA, hcomp, -⟩ := hra
  obtain ⟨r, g1, cell, q1, q2, q3, q4⟩ := x_one (hW.2.2.2.2 v _ hv).2 0 _ rfl
  have hr : r = (C, T, nC) := Option.some.inj (g1.symm.trans hc)
  subst hr
  obtain ⟨hS, hfc, kC, hkC, hkind⟩ := hC.2.2.2.2.2.1.1 ci _ hc
  have hcc : comp = P.2.1.1 ci := Option.some.inj (hcomp.symm.trans hfc)
  refine W.aast hC.1 hC.2.1 hat (fun q h => by cases h) (fun h => by cases h) hkA hkindA rfl (comp := comp) (kcomp := kC) (by rw [hcc]; exact hkC) ⟨fun q => h1 (Or.inl q), by rw [arrV_size, h2]; exact hi.2.1⟩ q1 (fun q h => by rw [q3] at h; cases h) (kv := kC) (by rw [q2]; exact hkC) (by rw [q2, hcc]; exact va_assign (C := C) ⟨hfc, kC, hkC, hkind⟩) rfl rfl hd fun H1 e1 e2 e3 => ?_
  refine kk H1 _ ls (xW_up hW ha e2 e3 ?_) (fun q hq => ?_) hx
  · show H1[a]? = _
    rw [e1, h2, arrV_store]
  · rcases List.mem_append.mp hq with hq | hq
    · exact hl q hq
    · rw [List.mem_singleton.mp hq]; exact hlow
/-! new things -/
def xLN (own : String) (index ci N : Nat) (fs : List Value) : Prop := ∃ (C : String) (T : u_T) (tf : Nat → FieldType), xCl ci C T N tf ∧ Cond.classLink own index C ∈ x_tbl ∧ Cond.instantiable C N ∈ x_tbl ∧ Cond.initialized C ∈ x_tbl ∧ ∀ j, j < N → defaultValue (tf j) = vp_V fs j
theorem x_new (hC : xC P Θ cc own nL d mc ms) {index ci N : Nat} {fs : List Value} (hk : xLN own index ci N fs) (hm : k + 1 ≤ mc ∧ n + N ≤ ms) (hd : decode cc pc = .ok (.new index, 3)) (kk : xX P Θ (pc + 3) L (.ref z :: st) (xup F z (.inl (ci, fs))) (z + 1) (k + 1) (n + N)) : xX P Θ pc L st F z k n := by
  obtain ⟨C, T, tf, ⟨h1, h2, h3, h4⟩, h5, h6, h7, h8⟩ := hk
  intro H locs ls hW hl hx
  have hKc := x_kk hC.2.2.2.2.2.1
  have hcl := hKc.1 ci _ h1
  refine W.newcK hC.1 hC.2.1 hC.2.2.2.1 (hC.2.2.2.2.1 _ h5) (hC.2.2.2.2.1 _ h6) (hC.2.2.2.2.1 _ h7) (g := F0 Θ.2.2.2.2.1 pc ls st) rfl hd (by rw [hC.2.2.2.2.2.2.1]; exact hm.1) (by rw [hC.2.2.2.2.2.2.1]; exact hm.2) hcl.2.1 hW.1 fun H1 kC e0 e1 e2 e3 => ?_
  refine kk H1 locs ls (xW_new hW e2 e3 ?_) hl hx
  exact ⟨_, h1, t_OB.to (u_born tf hC.2.2.2.2.1 h2 hcl e0 e1 h3) h8⟩
theorem x_newa (hC : xC P Θ cc own nL d mc ms) {atype : ArrayType} {t N : Nat} {i : Int32} {f1 : Nat → Value} (hty : newarray.typeOf atype = xty t) (ht : t < 8) (hpr : t < 3) (hw : Cond.arrayClass (newarray.typeOf atype) ∈ x_tbl) (hi : i = nI N) (hN : N < 2 ^ 31) (hb : N * componentBytes (xty t) ≤ 536870912) (hm : k + 1 ≤ mc ∧ n + N ≤ ms) (hf : (fun _ => defaultValue (xty t)) = f1) (hd : decode cc pc = .ok (.newarray atype, 2)) (kk : xX P Θ (pc + 2) L (.ref z :: st) (xup F z (.inr (t, N, f1))) (z + 1) (k + 1) (n + N)) : xX P Θ pc L (.int i :: st) F z k n := by
  subst hi
  subst hf
  intro H locs ls hW hl hx
  have hn0 : (nI N).toNatClampNeg = N := nI_clamp hN
  have hra := (hC.2.2.2.2.2.1.2.1 t ht).2
  have hra2 : Θ.2.2.2.1.vm.findClass ("[" ++ (xty t).toString) = some (P.2.1.2.2 t) := by
    rcases (show t = 0 ∨ t = 1 ∨ t = 2 by omega) with rfl | rfl | rfl <;> exact hra
  refine W.newa hC.1 hC.2.1 (hC.2.2.2.2.1 _ hw) (g := F0 Θ.2.2.2.2.1 pc ls (.int (nI N) :: st)) rfl hd rfl (nI_pos hN) (by rw [hn0, hty]; exact hb) (by rw [hC.2.2.2.2.2.2.1]; exact hm.1) (by rw [hn0, hC.2.2.2.2.2.2.1]; exact hm.2) fun cA kA comp h1 h2 h3 => ?_
  rw [hty, hra2] at h1
  cases h1
  rw [hn0, hty, hW.1]
  refine kk _ locs ls (xW_new hW (by simp [hW.1]) (fun q hq => by rw [Array.getElem?_push, if_neg (by rw [hW.1]; omega)]) ?_) hl hx
  show _ = some (arrV (P.2.1.2.2 t) N _)
  rw [← arrV_new, ← hW.1]
  simp
theorem x_anewa (hC : xC P Θ cc own nL d mc ms) {C : String} {index t N : Nat} {i : Int32} (hty : xty t = .object C) (ht : t < 8) (hcl : Cond.classLink own index C ∈ x_tbl) (hov : Cond.arrayOver (.object C) ∈ x_nst) (hi : i = nI N) (hN : N < 2 ^ 31) (hb : N * 4 ≤ 536870912) (hm : k + 1 ≤ mc ∧ n + N ≤ ms) (hd : decode cc pc = .ok (.anewarray index, 3)) (kk : xX P Θ (pc + 3) L (.ref z :: st) (xup F z (.inr (t, N, fun _ => .null))) (z + 1) (k + 1) (n + N)) : xX P Θ pc L (.int i :: st) F z k n := by
  subst hi
  intro H locs ls hW hl hx
  have hn0 : (nI N).toNatClampNeg = N := nI_clamp hN
  have hra := (hC.2.2.2.2.2.1.2.1 t ht).2
  rw [hty] at hra
  obtain ⟨kA0, comp0, -, -, -, hra2⟩ := hra
  refine W.anew hC.1 hC.2.1 hC.2.2.2.1 (hC.2.2.2.2.1 _ hcl) (va_AO.use (hC.2.2.2.2.2.1.2.2.1 _ hov)) (g := F0 Θ.2.2.2.2.1 pc ls (.int (nI N) :: st)) rfl hd rfl (nI_pos hN) (by rw [hn0]; exact hb) (by rw [hC.2.2.2.2.2.2.1]; exact hm.1) (by rw [hn0, hC.2.2.2.2.2.2.1]; exact hm.2) fun cA kA comp h1 h2 h3 h4 => ?_
  rw [hra2] at h1
  cases h1
  rw [hn0, hW.1]
  refine kk _ locs ls (xW_new hW (by simp [hW.1]) (fun q hq => by rw [Array.getElem?_push, if_neg (by rw [hW.1]; omega)]) ?_) hl hx
  show _ = some (arrV (P.2.1.2.2 t) N _)
  rw [← arrV_new, ← hW.1]
  simp
def xLO (own : String) (index : Nat) : Prop := Cond.methodLink own index Lib.objectInit ∈ x_tbl ∧ Cond.instanceMethod Lib.objectInit ∈ x_tbl ∧ Cond.code Lib.objectInit ⟨#[0xb1]⟩ 1 none ∈ x_tbl
theorem x_objInit (hC : xC P Θ cc own nL d mc ms) {index a : Nat} (hk : xLO own index) (hL : L.length = nL) (hd1 : 1 ≤ d) (hst : (st.map fun v => v.category).sum ≤ 8) (hd : decode cc pc = .ok (.invokespecial index, 3)) (kk : xX P Θ (pc + 3) L st F z k n) : xX P Θ pc L (.ref a :: st) F z k n := by
  intro H locs ls hW hl hx
  exact W.objInit hC.1 hC.2.1 hC.2.2.2.1 (hC.2.2.2.2.1 _ hk.1) (hC.2.2.2.2.1 _ hk.2.1) (hC.2.2.2.2.1 _ hk.2.2) (g := F0 Θ.2.2.2.2.1 pc ls (.ref a :: st)) rfl (by rw [hC.2.2.1, ← hL]; exact hx.1) rfl hd (by rw [hC.2.2.2.2.2.2.1]; exact hd1) (by rw [hC.2.2.2.2.2.2.1]; show 2 * 0 + _ + 12 ≤ 60 * d; omega) (kk H locs ls hW hl hx)
/-! calls -/
theorem x_after {H : Heap} {locs : List Loc} {ls : Array Slot} {st0 rest : List Value} {mc1 ms1 : Nat} {post : Option Value → xF → Nat → Prop} {free : Addr → Prop}
    (hr : va_Run Θ.1 P.1 Θ.2.1 Θ.2.2.1 Θ.2.2.2.1 Θ.2.2.2.2.1 Θ.2.2.2.2.2.1 Θ.2.2.2.2.2.2.1 Θ.2.2.2.2.2.2.2.1 Θ.2.2.2.2.2.2.2.2.1 H locs k n mc1 ms1 (F0 Θ.2.2.2.2.1 pc ls st0) rest (fun _ oc t => ∃ (r : Option Value) (F1 : xF) (z1 : Nat), oc = .returned r ∧ post r F1 z1 ∧ xW P F1 z1 t.heap) free)
    (hl : ∀ q ∈ locs, P.2.2.2.1 ≤ q.base) (hx : xl ls L) (hf : ∀ q, free q → P.2.2.2.1 ≤ q) (kk : ∀ (r : Option Value) (F1 : xF) (z1 : Nat), post r F1 z1 → xX P Θ (pc + 3) L (r.toList ++ rest) F1 z1 (k + mc1) (n + ms1)) :
    W Θ.1 P.1 Θ.2.1 Θ.2.2.1 Θ.2.2.2.1 Θ.2.2.2.2.1 Θ.2.2.2.2.2.1 Θ.2.2.2.2.2.2.1 Θ.2.2.2.2.2.2.2.1 Θ.2.2.2.2.2.2.2.2.1 H locs k n Θ.2.2.2.2.2.2.2.2.2 (F0 Θ.2.2.2.2.1 pc ls st0) := by
  intro T hT X
  obtain ⟨v, st₀, t, T', L', h0, X', hL', e1, e2, ⟨r, F1, z1, hv, hp, hW⟩, stp⟩ := hr T hT X
  cases hv
  obtain ⟨t2, a1, b1⟩ := kk v F1 z1 hp T'.heap (locs ++ L') ls (by rw [e1]; exact hW) (fun q hq => by
    rcases List.mem_append.mp hq with h | h
    · exact hl q h
    · exact hf _ (hL' q h)) hx T' rfl X'
  exact ⟨t2, stp t2 a1, b1⟩
theorem x_blind {av : List Value} : FrameBlind (va_Pc av (fun U => xW P F z U.heap ∧ xK P U)) := fun a U g mk q => ⟨q.1, q.2.1, xK_same (u := U) (U := U.calling g mk a) rfl q.2.2⟩
theorem x_paid {ws : List Cond} {args : Array Value} {s : State} (h : ∀ w ∈ x_tbl, w.before args s = true) (hw : ∀ w ∈ ws, w ∈ x_tbl) : ∀ w ∈ ws, ∀ (a' : Array Value) (U : State), s.WarmedH U.vm → w.before a' U = true :=
  pay_in h (fun w hw1 => ⟨hw w hw1, good_of_word (List.mem_filter.mp (hw w hw1)).2⟩)
/-- what the tables say of a callee -/
def xLY (Y : xY) (nP : Nat) : Prop := Cond.code Y.1 Y.2.1 Y.2.2.1 Y.2.2.2.1 ∈ x_tbl ∧ Cond.initialized Y.1.cls ∈ x_tbl ∧ (Y.1.cls ≠ "java/lang/invoke/MethodHandle" ∧ Y.1.cls ≠ "java/lang/invoke/VarHandle" ∧ (parseMethodDescriptor Y.1.desc).map (fun d => d.parameters.length) = some nP) ∧ Y.2.2.1 ≤ 41
def xLV (own : String) (index : Nat) (Y : xY) (nP : Nat) : Prop := xLY Y nP ∧ Cond.methodLink own index Y.1 ∈ x_tbl ∧ Cond.instanceMethod Y.1 ∈ x_tbl ∧ Cond.selects Y.1.cls Y.1 Y.1 ∈ x_tbl
def xLI (own : String) (index : Nat) (Y : xY) (nP : Nat) : Prop := xLY Y nP ∧ (Cond.methodLink own index Y.1 ∈ x_tbl ∨ ∃ host : String, Cond.methodLinkNest own index Y.1 host ∈ x_nst) ∧ Cond.instanceMethod Y.1 ∈ x_tbl ∧ Y.1.name = "<init>"
def xLS (own : String) (index : Nat) (Y : xY) (nP : Nat) : Prop := xLY Y nP ∧ (Cond.methodLink own index Y.1 ∈ x_tbl ∨ ∃ host : String, Cond.methodLinkNest own index Y.1 host ∈ x_nst) ∧ Cond.static Y.1 ∈ x_tbl
theorem x_code {Y : xY} {nP : Nat} (h : xLY Y nP) : ∀ w ∈ (.code Y.1 Y.2.1 Y.2.2.1 Y.2.2.2.1 :: x_tbl : List Cond), w ∈ x_tbl := fun w hw => (List.mem_cons.mp hw).elim (fun e => by rw [e]; exact h.1) id
theorem x_len {Y : xY} {nP : Nat} (h : xLY Y nP) : ∀ sig, parseMethodDescriptor Y.1.desc = some sig → nP = sig.parameters.length := fun sig hs => by
  have h2 := h.2.2.1.2.2
  rw [hs] at h2
  exact (Option.some.inj h2).symm
theorem x_callV (hC : xC P Θ cc own nL d mc ms) {index nP b ci nC mc1 ms1 : Nat} {Y : xY} {C : String} {T : u_T} {As rest : List Value} {fs : List Value} {post : Option Value → xF → Nat → Prop} (hk : xLV own index Y nP) (hM : xM P Y (.ref b :: As) F z mc1 ms1 post) (hb : F b = some (.inl (ci, fs))) (hc : xcl[ci]? = some (C, T, nC)) (hcn : Y.1.cls = C) (hdp : Y.2.2.2.2 + 1 ≤ d) (hn : As.length = nP) (hst : st = As.reverse ++ .ref b :: rest) (hL : L.length = nL) (hrm : (rest.map fun v => v.category).sum ≤ 8) (hm : k + mc1 ≤ mc ∧ n + ms1 ≤ ms) (hd : decode cc pc = .ok (.invokevirtual index, 3)) (kk : ∀ (r : Option Value) (F1 : xF) (z1 : Nat), post r F1 z1 → xX P Θ (pc + 3) L (r.toList ++ rest) F1 z1 (k + mc1) (n + ms1)) : xX P Θ pc L st F z k n := by
  subst hst
  obtain ⟨hY, h1, h2, h3⟩ := hk
  intro H locs ls hW hl hx
  have ht := hC.2.2.2.2.1
  have hR := hC.2.2.2.2.2.2.1
  obtain ⟨r, g1, cell, q1, q2, q3, q4⟩ := x_one (hW.2.2.2.2 b _ hb).2 0 _ rfl
  have hr : r = (C, T, nC) := Option.some.inj (g1.symm.trans hc)
  subst hr
  obtain ⟨hS, hfc, kC, hkC, hkind⟩ := hC.2.2.2.2.2.1.1 ci _ hc
  refine x_after (va_runV (C := Y.1.cls) (As := As) (rest := rest) (n := nP) (bytes := Y.2.1) (maxL := Y.2.2.1) (ret := Y.2.2.2.1) ⟨hC.1, hC.2.1, hC.2.2.1, hC.2.2.2.1, ht⟩ hM ⟨⟨rfl, rfl, ?_, ?_, x_paid ht (x_code hY), List.mem_cons_self, ht _ hY.1, ht _ hY.2.1, ⟨hY.2.2.1.1, hY.2.2.1.2.1⟩, x_len hY, ht _ h1⟩, ht _ h2, ht _ h3⟩ ⟨x_blind, ⟨cell, q1, by rw [q3]; rfl, by rw [hcn, q2]; exact hfc⟩, fun U hU hWm => ⟨rfl, by rw [hU]; exact hW, xK_moved hWm hC.2.2.2.2.2.1⟩⟩ rfl hn (by rw [← hL]; exact hx.1) rfl (lv_room hrm) hd (by rw [hR]; exact hm)) hl hx (fun q h => h) kk
  · rw [hR]; exact hdp
  · rw [hR]
    have := hY.2.2.2
    show 8 + (Y.2.2.1 + 11) + 60 * Y.2.2.2.2 ≤ 60 * d
    omega
theorem x_callS (hC : xC P Θ cc own nL d mc ms) {index nP mc1 ms1 : Nat} {Y : xY} {As rest : List Value} {post : Option Value → xF → Nat → Prop} (hk : xLS own index Y nP) (hM : xM P Y As F z mc1 ms1 post) (hdp : Y.2.2.2.2 + 1 ≤ d) (hn : As.length = nP) (hst : st = As.reverse ++ rest) (hL : L.length = nL) (hrm : (rest.map fun v => v.category).sum ≤ 8) (hm : k + mc1 ≤ mc ∧ n + ms1 ≤ ms) (hd : decode cc pc = .ok (.invokestatic index, 3)) (kk : ∀ (r : Option Value) (F1 : xF) (z1 : Nat), post r F1 z1 → xX P Θ (pc + 3) L (r.toList ++ rest) F1 z1 (k + mc1) (n + ms1)) : xX P Θ pc L st F z k n := by
  subst hst
  obtain ⟨hY, h1, h2⟩ := hk
  intro H locs ls hW hl hx
  have ht := hC.2.2.2.2.1
  have hR := hC.2.2.2.2.2.2.1
  have hf1 : Y.2.2.2.2 + 1 ≤ Θ.2.2.1.frames := by rw [hR]; exact hdp
  have hf2 : 8 + (Y.2.2.1 + 11) + 60 * Y.2.2.2.2 ≤ Θ.2.2.1.locals := by
    rw [hR]
    have := hY.2.2.2
    show 8 + (Y.2.2.1 + 11) + 60 * Y.2.2.2.2 ≤ 60 * d
    omega
  rcases h1 with h1 | ⟨host, h1⟩
  · exact x_after (va_runS (As := As) (rest := rest) (n := nP) (bytes := Y.2.1) (maxL := Y.2.2.1) (ret := Y.2.2.2.1) ⟨hC.1, hC.2.1, hC.2.2.1, hC.2.2.2.1, ht⟩ hM ⟨⟨rfl, rfl, hf1, hf2, x_paid ht (x_code hY), List.mem_cons_self, ht _ hY.1, ht _ hY.2.1, ⟨hY.2.2.1.1, hY.2.2.1.2.1⟩, x_len hY, ht _ h1⟩, ht _ h2⟩ ⟨x_blind, fun U hU hWm => ⟨rfl, by rw [hU]; exact hW, xK_moved hWm hC.2.2.2.2.2.1⟩⟩ rfl hn (by rw [← hL]; exact hx.1) rfl (lv_room hrm) hd (by rw [hR]; exact hm)) hl hx (fun q h => h) kk
  · exact x_after (va_runSN (As := As) (rest := rest) (n := nP) (bytes := Y.2.1) (maxL := Y.2.2.1) (ret := Y.2.2.2.1) (host := host) ⟨hC.1, hC.2.1, hC.2.2.1, hC.2.2.2.1, ht⟩ hM ⟨⟨⟨rfl, rfl, hf1, hf2, x_paid ht (x_code hY), List.mem_cons_self⟩, ht _ hY.1, ht _ hY.2.1, ⟨hY.2.2.1.1, hY.2.2.1.2.1⟩, x_len hY, va_Nw.use rfl (hC.2.2.2.2.2.1.2.2.1 _ h1)⟩, ht _ h2, trivial⟩ ⟨x_blind, fun U hU hWm => ⟨rfl, by rw [hU]; exact hW, xK_moved hWm hC.2.2.2.2.2.1⟩⟩ rfl hn (by rw [← hL]; exact hx.1) rfl (lv_room hrm) hd (by rw [hR]; exact hm)) hl hx (fun q h => h) kk
theorem x_callI (hC : xC P Θ cc own nL d mc ms) {index nP b mc1 ms1 : Nat} {Y : xY} {As rest : List Value} {post : Option Value → xF → Nat → Prop} (hk : xLI own index Y nP) (hr0 : Y.2.2.2.1 = none) (hM : xM P Y (.ref b :: As) F z mc1 ms1 post) (hdp : Y.2.2.2.2 + 1 ≤ d) (hn : As.length = nP) (hst : st = As.reverse ++ .ref b :: rest) (hL : L.length = nL) (hrm : (rest.map fun v => v.category).sum ≤ 8) (hm : k + mc1 ≤ mc ∧ n + ms1 ≤ ms) (hd : decode cc pc = .ok (.invokespecial index, 3)) (kk : ∀ (r : Option Value) (F1 : xF) (z1 : Nat), post r F1 z1 → xX P Θ (pc + 3) L (r.toList ++ rest) F1 z1 (k + mc1) (n + ms1)) : xX P Θ pc L st F z k n := by
  subst hst
  obtain ⟨hY, h1, h2, h3⟩ := hk
  intro H locs ls hW hl hx
  have ht := hC.2.2.2.2.1
  have hR := hC.2.2.2.2.2.2.1
  have hf1 : Y.2.2.2.2 + 1 ≤ Θ.2.2.1.frames := by rw [hR]; exact hdp
  have hf2 : 8 + (Y.2.2.1 + 11) + 60 * Y.2.2.2.2 ≤ Θ.2.2.1.locals := by
    rw [hR]
    have := hY.2.2.2
    show 8 + (Y.2.2.1 + 11) + 60 * Y.2.2.2.2 ≤ 60 * d
    omega
  have hco : Cond.code Y.1 Y.2.1 Y.2.2.1 none ∈ x_tbl := by rw [← hr0]; exact hY.1
  have hws : Cond.code Y.1 Y.2.1 Y.2.2.1 none ∈ (.code Y.1 Y.2.1 Y.2.2.1 Y.2.2.2.1 :: x_tbl : List Cond) := List.mem_cons_of_mem _ hco
  rcases h1 with h1 | ⟨host, h1⟩
  · exact x_after (va_runI (As := As) (rest := rest) (n := nP) (bytes := Y.2.1) (maxL := Y.2.2.1) ⟨hC.1, hC.2.1, hC.2.2.1, hC.2.2.2.1, ht⟩ hM ⟨⟨rfl, rfl, hf1, hf2, x_paid ht (x_code hY), hws, ht _ hco, ht _ hY.2.1, ⟨hY.2.2.1.1, hY.2.2.1.2.1⟩, x_len hY, ht _ h1⟩, h3, ht _ h2⟩ ⟨x_blind, fun U hU hWm => ⟨rfl, by rw [hU]; exact hW, xK_moved hWm hC.2.2.2.2.2.1⟩⟩ rfl hn (by rw [← hL]; exact hx.1) rfl (lv_room hrm) hd (by rw [hR]; exact hm)) hl hx (fun q h => h) kk
  · exact x_after (va_runIN (As := As) (rest := rest) (n := nP) (bytes := Y.2.1) (maxL := Y.2.2.1) (host := host) ⟨hC.1, hC.2.1, hC.2.2.1, hC.2.2.2.1, ht⟩ hM ⟨⟨⟨rfl, rfl, hf1, hf2, x_paid ht (x_code hY), hws⟩, ht _ hco, ht _ hY.2.1, ⟨hY.2.2.1.1, hY.2.2.1.2.1⟩, x_len hY, va_Nw.use rfl (hC.2.2.2.2.2.1.2.2.1 _ h1)⟩, h3, ht _ h2⟩ ⟨x_blind, fun U hU hWm => ⟨rfl, by rw [hU]; exact hW, xK_moved hWm hC.2.2.2.2.2.1⟩⟩ rfl hn (by rw [← hL]; exact hx.1) rfl (lv_room hrm) hd (by rw [hR]; exact hm)) hl hx (fun q h => h) kk

end XR
