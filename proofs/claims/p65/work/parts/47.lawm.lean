/-! messages: which stands at a rank; their letters and bits as lists; the line of one -/
theorem msg_at {A : aS} (hI : pInv A) (hnx : A.2.2.1.2.1 ≤ 1000) {i : Nat} (hi : i < A.2.2.1.1) : mRk A (nI i) < A.2.2.1.1 ∧ mOk A (nI (A.2.2.1.2.2 (mRk A (nI i))).1) ∧ mAt A (nI (A.2.2.1.2.2 (mRk A (nI i))).1) = A.2.2.1.2.2 (mRk A (nI i)) ∧ pMsg A.2.2.1.2.1 (A.2.2.1.2.2 (mRk A (nI i))) := by
  obtain ⟨⟨u1, u2, u3, u4, u5⟩, uw, ud, um, uo, ub, ut⟩ := hI
  obtain ⟨h1, h2⟩ := rankAt_ok u2 uo hi
  have hx : mIx A (nI (A.2.2.1.2.2 (mRk A (nI i))).1) = mRk A (nI i) := idAt_of uo (fun j hj => Nat.lt_of_lt_of_le (um j hj).1 hnx) h1
  refine ⟨h1, ?_, ?_, um _ h1⟩
  · show mIx A _ < _
    rw [hx]
    exact h1
  · show A.2.2.1.2.2 (mIx A _) = _
    rw [hx]
theorem msg_ord {A : aS} (hI : pInv A) {i : Nat} (h0 : 1 ≤ i) (hi : i < A.2.2.1.1) : befM (A.2.2.1.2.2 (mRk A (nI (i - 1)))) (A.2.2.1.2.2 (mRk A (nI i))) := by
  obtain ⟨⟨u1, u2, u3, u4, u5⟩, uw, ud, um, uo, ub, ut⟩ := hI
  obtain ⟨h1, h2⟩ := rankAt_ok u2 uo hi
  obtain ⟨g1, g2⟩ := rankAt_ok u2 uo (show i - 1 < A.2.2.1.1 by omega)
  exact rank_bef uo g1 h1 (by rw [g2, h2]; omega)
def txl (s : Nat → Nat) (m : Nat) : List Nat := (List.range m).map s
theorem txl_len (s : Nat → Nat) (m : Nat) : (txl s m).length = m := by simp [txl]
theorem txl_s (s : Nat → Nat) (m : Nat) : txl s (m + 1) = txl s m ++ [s m] := by
  unfold txl
  rw [List.range_succ, List.map_append]
  rfl
theorem txl_at {s : Nat → Nat} {m i : Nat} (h : i < m) : (txl s m).getD i 0 = s i := by
  rw [txl, List.getD_eq_getElem?_getD, List.getElem?_map, List.getElem?_range h]
  rfl
def btl (ln vl s : Nat → Nat) (m : Nat) : List Nat := (List.range (bitsN ln s m)).map (fun i => 48 + splB ln vl s m i)
theorem btl_len (ln vl s : Nat → Nat) (m : Nat) : (btl ln vl s m).length = bitsN ln s m := by simp [btl]
theorem btl_at {ln vl s : Nat → Nat} {m i : Nat} (h : i < bitsN ln s m) : (btl ln vl s m).getD i 0 = 48 + splB ln vl s m i := by
  rw [btl, List.getD_eq_getElem?_getD, List.getElem?_map, List.getElem?_range h]
  rfl
theorem btl_s {ln vl s : Nat → Nat} {m : Nat} (h : isSy (s m)) : btl ln vl s (m + 1) = btl ln vl s m ++ cdl (ln (s m - 97)) (vl (s m - 97)) := by
  have h1 : lenF ln (s m) = ln (s m - 97) := by rw [lenF, if_pos h]
  have h2 : lenF vl (s m) = vl (s m - 97) := by rw [lenF, if_pos h]
  refine ls_ext ?_ (fun i hi => ?_)
  · rw [List.length_append, btl_len, btl_len, cdl_len, bitsN, h1]
  · rw [btl_len] at hi
    rw [btl_at hi]
    have hi2 : i < bitsN ln s m + ln (s m - 97) := by rw [← h1]; exact hi
    show 48 + xcat (splB ln vl s m) (bitsN ln s m) (codeB (lenF ln (s m)) (lenF vl (s m))) i = _
    unfold xcat
    by_cases q : i < bitsN ln s m
    · rw [if_pos q, ls_l (by rw [btl_len]; exact q), btl_at q]
    · rw [if_neg q]
      obtain ⟨j, rfl⟩ : ∃ j, i = bitsN ln s m + j := ⟨i - bitsN ln s m, by omega⟩
      have e := ls_r (l := btl ln vl s m) (m := cdl (ln (s m - 97)) (vl (s m - 97))) j
      rw [btl_len] at e
      rw [e, cdl_at (by omega), h1, h2, show bitsN ln s m + j - bitsN ln s m = j by omega]
/-- lists and functions, step by step -/
theorem fl_snoc {u : Nat → Nat} {l : List Nat} {x n : Nat} (hn : l.length = n) (h : ∀ i, i < n → u i = l.getD i 0) : ∀ i, i < n + 1 → updN u n x i = (l ++ [x]).getD i 0 := by
  subst hn
  intro i hi
  by_cases e : i = l.length
  · rw [e, updN_eq]
    exact (ls_r (l := l) (m := [x]) 0).symm
  · rw [updN_ne e, ls_l (by omega)]
    exact h i (by omega)
theorem fl_cat {u y : Nat → Nat} {l m : List Nat} {n : Nat} (hn : l.length = n) (h : ∀ i, i < n → u i = l.getD i 0) (h2 : ∀ i, i < m.length → y i = m.getD i 0) : ∀ i, i < n + m.length → xcat u n y i = (l ++ m).getD i 0 := by
  subst hn
  intro i hi
  unfold xcat
  by_cases e : i < l.length
  · rw [if_pos e, ls_l e]
    exact h i e
  · rw [if_neg e]
    obtain ⟨j, rfl⟩ : ∃ j, i = l.length + j := ⟨i - l.length, by omega⟩
    rw [ls_r, show l.length + j - l.length = j by omega]
    exact h2 j (by omega)
theorem fmS_l (e : mS) {i : Nat} (hi : i < dgs e.1 + 1 + dgs e.2.1 + 1 + e.2.2.1) : fmS e i = ((((([] ++ dgl e.1) ++ [33]) ++ dgl e.2.1) ++ [58]) ++ txl e.2.2.2 e.2.2.1).getD i 0 := by
  have a1 : ∀ i, i < dgs e.1 → dgc e.1 i = ([] ++ dgl e.1).getD i 0 := fun i hi => by rw [List.nil_append, dgl_at hi]
  have l1 : ([] ++ dgl e.1).length = dgs e.1 := by rw [List.nil_append, dgl_len]
  have a2 := fl_snoc (x := 33) l1 a1
  have l2 : (([] ++ dgl e.1) ++ [33]).length = dgs e.1 + 1 := by rw [List.length_append, l1]; rfl
  have a3 := fl_cat (y := dgc e.2.1) (m := dgl e.2.1) l2 a2 (fun i hi => by rw [dgl_len] at hi; rw [dgl_at hi])
  rw [dgl_len] at a3
  have l3 : ((([] ++ dgl e.1) ++ [33]) ++ dgl e.2.1).length = dgs e.1 + 1 + dgs e.2.1 := by rw [List.length_append, l2, dgl_len]
  have a4 := fl_snoc (x := 58) l3 a3
  have l4 : (((([] ++ dgl e.1) ++ [33]) ++ dgl e.2.1) ++ [58]).length = dgs e.1 + 1 + dgs e.2.1 + 1 := by rw [List.length_append, l3]; rfl
  have a5 := fl_cat (y := e.2.2.2) (m := txl e.2.2.2 e.2.2.1) l4 a4 (fun i hi => by rw [txl_len] at hi; rw [txl_at hi])
  rw [txl_len] at a5
  exact a5 i hi
theorem xt_48 (x : Nat) : nI (48 + x) - nI 48 = nI x := by rw [pk_sub (by omega), Nat.add_sub_cancel_left]
theorem xt_3j {j n : Nat} (h : j ≤ 3 + n) : nI 3 - nI j + nI n = nI (3 + n - j) := by rw [x_subadd, pk_sub h]
