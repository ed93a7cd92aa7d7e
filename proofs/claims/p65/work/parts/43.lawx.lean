/-! the law's body: what is given, its texts and their row -/
def xGl (P : xP) (Θ : xT) (fo o1 o2 rt : Nat) (cm : cmT) (sm a N : Nat) (xs : Nat → Int32) (qe qq qx qc : Nat) : Prop :=
  xC P Θ code "MessageCoderLaw" 22 1573 644766 7153085 ∧ xZx P ∧ xNx P ∧ xJd P fo ∧ xDg P o1 o2 ∧ xSR P rt ∧ xCM P cm ∧ xSM P sm ∧ xScr P a N xs ∧
  vk_R "MessageCoderLaw" 141 "" qe Θ.2.2.2.1 ∧ xSo P qe [] ∧ vk_R "MessageCoderLaw" 163 "=" qq Θ.2.2.2.1 ∧ xSo P qq [61] ∧ vk_R "MessageCoderLaw" 228 "!" qx Θ.2.2.2.1 ∧ xSo P qx [33] ∧ vk_R "MessageCoderLaw" 233 ":" qc Θ.2.2.2.1 ∧ xSo P qc [58]
/-- the first m letters of a code -/
def cdp (l v m : Nat) : List Nat := (List.range m).map (fun i => 48 + codeB l v i)
theorem cdp_len (l v m : Nat) : (cdp l v m).length = m := by simp [cdp]
theorem cdp_s (l v m : Nat) : cdp l v (m + 1) = cdp l v m ++ [48 + codeB l v m] := by
  unfold cdp
  rw [List.range_succ, List.map_append]
  rfl
theorem cdp_all (l v : Nat) : cdp l v l = cdl l v := rfl
theorem dgl_bit {x : Nat} (h : x < 2) : dgl x = [48 + x] := by
  have h9 : ∀ x, x < 2 → dgl x = [48 + x] := by decide
  exact h9 x h
theorem ls_ext {l m : List Nat} (h1 : l.length = m.length) (h2 : ∀ i, i < l.length → l.getD i 0 = m.getD i 0) : l = m := by
  refine List.ext_getElem h1 (fun i a b => ?_)
  have h := h2 i a
  rw [List.getD_eq_getElem?_getD, List.getD_eq_getElem?_getD, List.getElem?_eq_getElem a, List.getElem?_eq_getElem b] at h
  exact h
theorem fmC_l {c l v i : Nat} (hi : i < 2 + l) : fmC c l v i = ((([] ++ [c]) ++ [61]) ++ cdl l v).getD i 0 := by
  unfold fmC
  rcases i with _ | _ | i
  · rfl
  · rfl
  · rw [if_neg (by omega), if_neg (by omega), show i + 1 + 1 - 2 = i by omega]
    show 48 + codeB l v i = ([c, 61] ++ cdl l v).getD (i + 2) 0
    rw [show i + 2 = [c, 61].length + i from Nat.add_comm i 2, ls_r, cdl_at (by omega)]
/-- a text made in the run, between lo and z, or the empty one of the start -/
def xTv (P : xP) (F : xF) (lo z s : Nat) (l : List Nat) : Prop := (xTs F s l ∧ lo ≤ s ∧ s + 2 ≤ z) ∨ (xSo P s l ∧ l = [])
theorem xTv_fr {P : xP} {F F1 : xF} {lo z s : Nat} {l : List Nat} (h : xTv P F lo z s l) (hf : ∀ a, lo ≤ a → a < z → F1 a = F a) : xTv P F1 lo z s l := by
  rcases h with ⟨h1, h2, h3⟩ | h
  · exact Or.inl ⟨xTs_fr h1 (fun a q1 q2 => hf a (by omega) (by omega)), h2, h3⟩
  · exact Or.inr h
theorem xTv_T {P : xP} {F : xF} {lo z s lo2 : Nat} {l : List Nat} (h : xTv P F lo z s l) (hz : z ≤ lo2) : (xTs F s l ∧ s + 2 ≤ lo2) ∨ xSo P s l := by
  rcases h with ⟨h1, h2, h3⟩ | h
  · exact Or.inl ⟨h1, by omega⟩
  · exact Or.inr h.1
theorem xTv_new {P : xP} {F : xF} {lo z s : Nat} {l : List Nat} (h : xTv P F lo z s l) (hl : 0 < l.length) : xTs F s l ∧ lo ≤ s ∧ s + 2 ≤ z := by
  rcases h with h | ⟨-, h⟩
  · exact h
  · rw [h] at hl
    exact absurd hl (Nat.lt_irrefl 0)
/-- the row of codes at ca, K of them laid, all of it below ce -/
def xCs (F : xF) (ca ce : Nat) (w : Nat → Nat) (K : Nat) : Prop := ca < ce ∧ ∃ (f : Nat → Value) (sa : Nat → Nat), F ca = some (.inr (3, 8, f)) ∧ ∀ j, j < K → f j = .ref (sa j) ∧ ca < sa j ∧ sa j + 2 ≤ ce ∧ xTs F (sa j) (cdl (hLen w j) (hVal (hLen w) j))
theorem xCs_fr {F F1 : xF} {ca ce K : Nat} {w : Nat → Nat} (h : xCs F ca ce w K) (hf : ∀ a, ca ≤ a → a < ce → F1 a = F a) : xCs F1 ca ce w K := by
  obtain ⟨h0, f, sa, h1, h2⟩ := h
  refine ⟨h0, f, sa, (hf ca (by omega) h0).trans h1, fun j hj => ?_⟩
  obtain ⟨a1, a2, a3, a4⟩ := h2 j hj
  exact ⟨a1, a2, a3, xTs_fr a4 (fun a q1 q2 => hf a (by omega) (by omega))⟩
theorem xCs_up {F : xF} {ca ce ce2 K : Nat} {w : Nat → Nat} (h : xCs F ca ce w K) (hc : ce ≤ ce2) : xCs F ca ce2 w K := by
  obtain ⟨h0, f, sa, h1, h2⟩ := h
  exact ⟨by omega, f, sa, h1, fun j hj => by
    obtain ⟨a1, a2, a3, a4⟩ := h2 j hj
    exact ⟨a1, a2, by omega, a4⟩⟩
section XU
variable {P : xP} {Θ : xT} {cc : ByteArray} {own : String} {nL d mc ms pc : Nat} {L : List (Option Value)} {st : List Value} {F : xF} {z k n : Nat}
theorem x_codePut (hC : xC P Θ cc own nL d mc ms) {ca ce ce2 i s : Nat} {w : Nat → Nat} (h : xCs F ca ce w i) (hi : i < 8) (hs : xTs F s (cdl (hLen w i) (hVal (hLen w) i))) (h1 : ca < s ∧ s + 2 ≤ ce2 ∧ ce ≤ ce2) (hd : decode cc pc = .ok (.aastore, 1)) (kk : ∀ F1 : xF, xCs F1 ca ce2 w (i + 1) → (∀ a, a ≠ ca → F1 a = F a) → xX P Θ (pc + 1) L st F1 z k n) : xX P Θ pc L (.ref s :: .int (nI i) :: .ref ca :: st) F z k n := by
  obtain ⟨h0, f, sa, hf, hj⟩ := h
  obtain ⟨g, s0, s1, s2⟩ := id hs
  refine x_aast hC hf (by decide) rfl s0 rfl (j := i) ⟨rfl, hi, by decide⟩ hd (f1 := updV f i (.ref s)) rfl (kk _ ?_ (fun a ha => xup_ne ha))
  refine ⟨by omega, _, updN sa i s, xup_eq, fun j hj9 => ?_⟩
  by_cases e : j = i
  · subst e
    rw [updN_eq]
    exact ⟨by simp [updV], h1.1, h1.2.1, xTs_fr hs (fun a q1 q2 => xup_ne (by omega))⟩
  · obtain ⟨a1, a2, a3, a4⟩ := hj j (by omega)
    rw [updN_ne e]
    exact ⟨by simp [updV, e, a1], a2, by omega, xTs_fr a4 (fun a q1 q2 => xup_ne (by omega))⟩
theorem x_codeGet (hC : xC P Θ cc own nL d mc ms) {ca ce i : Nat} {w : Nat → Nat} (h : xCs F ca ce w 8) (hi : i < 8) (hd : decode cc pc = .ok (.aaload, 1)) (kk : ∀ s, ca < s → s + 2 ≤ ce → xTs F s (cdl (hLen w i) (hVal (hLen w) i)) → xX P Θ (pc + 1) L (.ref s :: st) F z k n) : xX P Θ pc L (.int (nI i) :: .ref ca :: st) F z k n := by
  obtain ⟨h0, f, sa, hf, hj⟩ := h
  obtain ⟨a1, a2, a3, a4⟩ := hj i hi
  exact x_aald hC hf (by decide) rfl (j := i) ⟨rfl, hi, by decide⟩ (x := .ref (sa i)) a1 rfl hd (kk _ a2 a3 a4)
end XU
theorem xt_dec {t : Nat} (h : 1 ≤ t) : nI t - nI 1 + Int32.ofInt (-1) = nI (t - 1) - nI 1 := by
  obtain ⟨q, rfl⟩ : ∃ q, t = q + 1 := ⟨t - 1, by omega⟩
  have e : nI (q + 1) = nI q + nI 1 := (nI_add q 1).symm
  rw [show q + 1 - 1 = q by omega, e, Int32.add_sub_cancel, show Int32.ofInt (-1) = -(nI 1) from rfl, Int32.sub_eq_add_neg]
