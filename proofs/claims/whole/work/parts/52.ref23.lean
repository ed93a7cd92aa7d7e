theorem doR_no {K : kS} {A0 : aS} {p p1 : Nat} {g : Nat → Nat} {y : Nat} (h : doR K A0 p p1 g y) (hy : y ≠ 0) : ∃ j, ∃ B : aS, p ≤ j ∧ j < p1 ∧ prgS K A0 K.1 = (false, j, B) := by
  rcases h with h | h
  · exact absurd h.1 hy
  · exact h.2

/-! the reference: a program's run -/
theorem pEnd_x {n : Nat} {s t : Nat → Nat} (hx : ∀ a, sgN n s a = sgN n t a) {a : Nat} : ∀ k, pEnd n s a k = pEnd n t a k
  | 0 => rfl
  | k + 1 => by
    show (if pEnd n s a k < n ∧ isSy (sgN n s (pEnd n s a k)) then pEnd n s a k + 1 else pEnd n s a k) = (if pEnd n t a k < n ∧ isSy (sgN n t (pEnd n t a k)) then pEnd n t a k + 1 else pEnd n t a k)
    rw [pEnd_x hx k, hx]
theorem pDg_x {n : Nat} {s t : Nat → Nat} (hx : ∀ a, sgN n s a = sgN n t a) {a : Nat} : ∀ k, pDg n s a k = pDg n t a k
  | 0 => rfl
  | k + 1 => by
    show (if (pDg n s a k).1 = k ∧ isDg (sgN n s (a + k)) then (k + 1, (pDg n s a k).2 * 10 + (sgN n s (a + k) - 48)) else pDg n s a k) = (if (pDg n t a k).1 = k ∧ isDg (sgN n t (a + k)) then (k + 1, (pDg n t a k).2 * 10 + (sgN n t (a + k) - 48)) else pDg n t a k)
    rw [pDg_x hx k, hx]
theorem pPart_x {n : Nat} {s t : Nat → Nat} (hx : ∀ a, sgN n s a = sgN n t a) (c : Nat) (q : pS) : pPart n s c q = pPart n t c q := by
  have e1 : ∀ m, pNum n s m q = pNum n t m q := fun m => by
    unfold pNum
    rw [pDg_x hx]
  have e2 : pSyms n s q = pSyms n t q := by
    unfold pSyms
    rw [pEnd_x hx]
  have e3 : pSym n s q = pSym n t q := by
    unfold pSym
    rw [hx]
  have e4 : pSign n s c q = pSign n t c q := by
    unfold pSign
    rw [hx]
  unfold pPart
  rw [e1, e1, e2, e3, e4]
theorem pForm_x {n : Nat} {s t g : Nat → Nat} (hx : ∀ a, sgN n s a = sgN n t a) {a : Nat} : ∀ k, pForm n s g a k = pForm n t g a k
  | 0 => rfl
  | k + 1 => by
    show (if (pForm n s g a k).1 = true then pPart n s (g k) (pForm n s g a k).2 else pForm n s g a k) = (if (pForm n t g a k).1 = true then pPart n t (g k) (pForm n t g a k).2 else pForm n t g a k)
    rw [pForm_x hx k, pPart_x hx]
theorem pTry_x {n : Nat} {s t : Nat → Nat} (hx : ∀ a, sgN n s a = sgN n t a) (a c : Nat) : pTry n s a c = pTry n t a c := pForm_x hx _
theorem pCmd_x {n : Nat} {s t : Nat → Nat} (hx : ∀ a, sgN n s a = sgN n t a) {a : Nat} : ∀ k, pCmd n s a k = pCmd n t a k
  | 0 => rfl
  | k + 1 => by
    show (if (pCmd n s a k).1 < k then pCmd n s a k else if (pTry n s a k).1 = true then (k, (pCmd n s a k).2) else (k + 1, if (pCmd n s a k).2 < (pTry n s a k).2.1 then (pTry n s a k).2.1 else (pCmd n s a k).2)) = (if (pCmd n t a k).1 < k then pCmd n t a k else if (pTry n t a k).1 = true then (k, (pCmd n t a k).2) else (k + 1, if (pCmd n t a k).2 < (pTry n t a k).2.1 then (pTry n t a k).2.1 else (pCmd n t a k).2))
    rw [pCmd_x hx k, pTry_x hx]
theorem kDraft_x {n : Nat} {s t : Nat → Nat} (hx : ∀ a, sgN n s a = sgN n t a) {q : kS} {cc b : Nat} : ∀ k, kDraft n s q cc b k = kDraft n t q cc b k
  | 0 => rfl
  | k + 1 => by
    show kStep (kDraft n s q cc b k) 1 (sgN n s (b + k)) 0 cc = kStep (kDraft n t q cc b k) 1 (sgN n t (b + k)) 0 cc
    rw [kDraft_x hx k, hx]
theorem rdN_x {n : Nat} {s t : Nat → Nat} (hx : ∀ a, sgN n s a = sgN n t a) (q : rS) : rdN n s q = rdN n t q := by
  have e1 : pCmd n s q.2.1 10 = pCmd n t q.2.1 10 := pCmd_x hx 10
  have e2 : rdA n s q.2.1 = rdA n t q.2.1 := by
    unfold rdA
    rw [e1, pTry_x hx]
  have e3 : rdK n s q.2.2.1 q.2.1 q.2.2.2 = rdK n t q.2.2.1 q.2.1 q.2.2.2 := by
    unfold rdK kCmd
    rw [e1, pTry_x hx, kDraft_x hx]
  unfold rdN
  rw [e1, e2, e3, hx]
theorem rdS_x {n : Nat} {s t : Nat → Nat} (h : ∀ j, j < n → s j = t j) : ∀ k, rdS n s k = rdS n t k
  | 0 => rfl
  | k + 1 => by
    have hx : ∀ a, sgN n s a = sgN n t a := fun a => by
      unfold sgN
      by_cases c : a < n
      · rw [if_pos c, if_pos c, h a c]
      · rw [if_neg c, if_neg c]
    show rdN n s (rdS n s k) = rdN n t (rdS n t k)
    rw [rdS_x h k, rdN_x hx]
def psC (n : Nat) (s : Nat → Nat) (k : Nat) : Nat := (rdS n s k).2.2.1.1
theorem cmS_lt {K : kS} {s : Nat → Nat} {n p p1 J f1 f2 cc : Nat} (h : cmS K s n p p1 J f1 f2 cc) : p < p1 ∧ ∀ j, p ≤ j → j < p1 → K.2.2.2.2 j = cc := by
  by_cases c : J = 1
  · obtain ⟨h1, h2, h3, h4⟩ := h.2 c
    refine ⟨by omega, fun j h5 h6 => ?_⟩
    have h7 := (h4 (j - p) (by omega)).2.2
    rw [show p + (j - p) = j by omega] at h7
    exact h7
  · obtain ⟨h1, h2, h3, h4, h5⟩ := h.1 c
    refine ⟨by omega, fun j h6 h7 => ?_⟩
    rw [show j = p by omega]
    exact h5
theorem run_row {n : Nat} {s cs : Nat → Nat} {k cn : Nat} {R : rS} (hn : n ≤ 60) (hs : ∀ j, j < n → s j < 65536) (h : rowC n s cs k) (hk : k < cn) (hR : rdS n s cn = R) : ∃ J f1 f2 : Nat, J < 10 ∧ cs (3 * k) = ltr J ∧ cs (3 * k + 1) = f1 ∧ cs (3 * k + 2) = (if J = 1 then f2 - f1 else f2) ∧ cmS R.2.2.1 s n (psC n s k) (psC n s (k + 1)) J f1 f2 k ∧ (f1 ≤ 1000 ∧ f2 ≤ 1000) ∧ psC n s (k + 1) ≤ R.2.2.1.1 := by
  obtain ⟨h1, J, h2, hJ, h3, h4, h5⟩ := h
  obtain ⟨g1, g2, g3, g4⟩ := rdS_G hn hs k
  obtain ⟨o1, o2⟩ := rd_on hn hs k h1
  obtain ⟨T, hT⟩ : ∃ T, pTry n s (rdS n s k).2.1 J = T := ⟨_, rfl⟩
  rw [hT] at h4 h5
  obtain ⟨k1, k2, k3, L, k4, k5, k6, k7, k8, k9⟩ := cmd_K (K := (rdS n s k).2.2.1) (cc := (rdS n s k).2.2.2) hn hs g1 g2 g4 (by omega) hJ h2 hT
  have e1 : (rdS n s (k + 1)).2.2.1 = L := by
    have e : rdS n s (k + 1) = rdN n s (rdS n s k) := rfl
    rw [e, rdN_c h1 (by omega) k3 k4]
    split
    · rfl
    · split <;> rfl
  have e2 : KE (rdS n s (k + 1)).2.2.1 R.2.2.1 := by
    have h9 := KE_rd (n := n) (s := s) (k := k + 1) (cn - (k + 1))
    rw [show k + 1 + (cn - (k + 1)) = cn by omega, hR] at h9
    exact h9
  rw [← e1, o2] at k7
  exact ⟨J, _, _, h2, h3, h4, h5, cmS_x k7 (Nat.le_refl _) e2, ⟨k8, k9⟩, e2.1⟩
theorem run_ok {g g1 : Nat → Nat} {M : mcS} {R : rS} {B : aS} (hI : mInv M) (hg : rMD g M) (hB : prgS R.2.2.1 M.1 R.2.2.1.1 = (true, R.2.2.1.1, B)) (kr : rRow g1 B) (hA : aInv B) (ko : ∀ q, 430 ≤ q → g1 q = cpyR g 0 10 q) : rMD (endG g1 M.2.2.2.2.2.2.2.1) (runO M R) ∧ endC M.2.2.2.2.2.2.2.1 = prgU R.2.2.1 M.1 M.2.2.2.2.2.2.2.1 := by
  obtain ⟨A, S, past, inp, lin, sv, pp, un, ep, fc⟩ := M
  have h := chg_R (t := 0) (r := ((0 : Int32), B)) hI hg hA kr ko (Or.inl ⟨rfl, (show ¬ (0 : Int32) < 0 by decide)⟩)
  rw [if_pos rfl, if_pos rfl] at h
  obtain ⟨h1, h2⟩ := h
  have c1 : chP 0 pp = pp + 1 := if_neg (by decide)
  have c2 : chU 0 un = un1 un := if_neg (by decide)
  have hB : prgS R.2.2.1 A R.2.2.1.1 = (true, R.2.2.1.1, B) := hB
  have hk : (prgS R.2.2.1 A R.2.2.1.1).1 = true := by rw [hB]
  have e1 : prgA R.2.2.1 A = B := by
    unfold prgA
    rw [if_pos hk, hB]
  have e2 : prgP R.2.2.1 A pp = pp + 1 := if_pos hk
  have e3 : prgU R.2.2.1 A un = un1 un := if_pos hk
  have er : runO (A, S, past, inp, lin, sv, pp, un, ep, fc) R = (B, S, updA past (pp % 9) A, (0, inp.2), lin, sv, pp + 1, un1 un, ep, if (prgS R.2.2.1 A R.2.2.1.1).1 = true then fc else prgV R.2.2.1 A) := by
    show (prgA R.2.2.1 A, S, updA past (pp % 9) A, (0, inp.2), lin, sv, prgP R.2.2.1 A pp, prgU R.2.2.1 A un, ep, if (prgS R.2.2.1 A R.2.2.1.1).1 = true then fc else prgV R.2.2.1 A) = _
    rw [e1, e2, e3]
  have ec : chgM (A, S, past, inp, lin, sv, pp, un, ep, fc) ((0 : Int32), B) = (B, S, updA past (pp % 9) A, inp, lin, sv, pp + 1, un1 un, ep, fc) := by
    show (B, S, updA past (pp % 9) A, inp, lin, sv, chP 0 pp, chU 0 un, ep, fc) = _
    rw [c1, c2]
  rw [ec] at h1
  rw [er]
  refine ⟨⟨h1.1, h1.2.1, h1.2.2⟩, ?_⟩
  show endC un = prgU R.2.2.1 A un
  rw [e3, ← c2]
  exact h2
theorem run_no {g g1 : Nat → Nat} {M : mcS} {R : rS} (hI : mInv M) (hg : rMD g M) (hB : (prgS R.2.2.1 M.1 R.2.2.1.1).1 = false) (ko : ∀ q, 430 ≤ q → g1 q = cpyR g 0 10 q) : rMD (cpyR g1 10 0) (runO M R) ∧ M.2.2.2.2.2.2.2.1 = prgU R.2.2.1 M.1 M.2.2.2.2.2.2.2.1 := by
  have hgx : cpyR (fun q => if q < 430 then g q else g1 q) 10 0 = cpyR g1 10 0 := by
    funext q
    unfold cpyR cpyS
    by_cases c : 430 * 0 ≤ q ∧ q < 430 * 0 + 430
    · rw [if_pos c, if_pos c]
      exact if_neg (by omega)
    · rw [if_neg c, if_neg c]
      exact if_neg (by omega)
  have kr : rRow (fun q => if q < 430 then g q else g1 q) M.1 := rRow_ext hI.1 (fun q hq => if_pos hq) hg.1
  obtain ⟨A, S, past, inp, lin, sv, pp, un, ep, fc⟩ := M
  have h := chg_R (t := 1) (r := ((-1 : Int32), A)) (g1 := fun q => if q < 430 then g q else g1 q) hI hg hI.1 kr (fun q hq => (if_neg (by omega)).trans (ko q hq)) (Or.inr ⟨by decide, (show (-1 : Int32) < 0 by decide), rfl⟩)
  rw [if_neg (by decide), if_neg (by decide), hgx] at h
  obtain ⟨h1, h2⟩ := h
  have c1 : chP (-1) pp = pp := if_pos (by decide)
  have c2 : chU (-1) un = un := if_pos (by decide)
  have hk : ¬ (prgS R.2.2.1 A R.2.2.1.1).1 = true := fun e => by
    have hB : (prgS R.2.2.1 A R.2.2.1.1).1 = false := hB
    rw [hB] at e
    cases e
  have e1 : prgA R.2.2.1 A = A := if_neg hk
  have e2 : prgP R.2.2.1 A pp = pp := if_neg hk
  have e3 : prgU R.2.2.1 A un = un := if_neg hk
  have er : runO (A, S, past, inp, lin, sv, pp, un, ep, fc) R = (A, S, updA past (pp % 9) A, (0, inp.2), lin, sv, pp, un, ep, if (prgS R.2.2.1 A R.2.2.1.1).1 = true then fc else prgV R.2.2.1 A) := by
    show (prgA R.2.2.1 A, S, updA past (pp % 9) A, (0, inp.2), lin, sv, prgP R.2.2.1 A pp, prgU R.2.2.1 A un, ep, if (prgS R.2.2.1 A R.2.2.1.1).1 = true then fc else prgV R.2.2.1 A) = _
    rw [e1, e2, e3]
  have ec : chgM (A, S, past, inp, lin, sv, pp, un, ep, fc) ((-1 : Int32), A) = (A, S, updA past (pp % 9) A, inp, lin, sv, pp, un, ep, fc) := by
    show (A, S, updA past (pp % 9) A, inp, lin, sv, chP (-1) pp, chU (-1) un, ep, fc) = _
    rw [c1, c2]
  rw [ec] at h1
  rw [er]
  exact ⟨⟨h1.1, h1.2.1, h1.2.2⟩, e3.symm⟩
theorem aDo_inv {A : aS} (hA : aInv A) (j c x : Nat) (hn : A.2.2.1.2.1 + 1 < 1000) : aInv (aDo A j c x).2 := by
  unfold aDo
  repeat' split
  · exact inv_Wt hA _ _
  · exact inv_Dr hA _
  · exact inv_Cl hA
  · exact inv_Po hA _ hn
  · exact inv_Di hA _
  · exact inv_Hu hA _ _
  · exact inv_Le hA _
  · exact inv_Se hA
  · exact inv_Fl hA _
  · exact inv_Re hA
theorem prgS_inv {K : kS} {A : aS} (hA : aInv A) : ∀ k, A.2.2.1.2.1 + k < 1000 → aInv (prgS K A k).2.2
  | 0, _ => hA
  | k + 1, h => by
    have ih := prgS_inv (K := K) hA k (by omega)
    have h2 := prgS_nx K A k
    unfold prgS
    split
    · split
      · exact ih
      · exact aDo_inv ih _ _ _ (by omega)
    · exact ih
theorem inv_runE {M : mcS} (hI : mInv M) (R : rS) : mInv (runE M R) := ⟨hI.1, hI.2.1, hI.2.2.1, hI.2.2.2.1, hI.2.2.2.2.1, hI.2.2.2.2.2.1, Nat.zero_le _, hI.2.2.2.2.2.2.2.1, fun j hj => absurd hj (Nat.not_lt_zero j), hI.2.2.2.2.2.2.2.2.2⟩
theorem inv_runO {M : mcS} (hI : mInv M) {R : rS} (hn : M.1.2.2.1.2.1 + R.2.2.1.1 < 1000) : mInv (runO M R) := by
  obtain ⟨A, S, past, inp, lin, sv, pp, un, ep, fc⟩ := M
  have hA : aInv A := hI.1
  by_cases hk : (prgS R.2.2.1 A R.2.2.1.1).1 = true
  · have e1 : prgA R.2.2.1 A = (prgS R.2.2.1 A R.2.2.1.1).2.2 := if_pos hk
    have e2 : prgP R.2.2.1 A pp = pp + 1 := if_pos hk
    have e3 : prgU R.2.2.1 A un = un1 un := if_pos hk
    have h := inv_chg (r := ((0 : Int32), (prgS R.2.2.1 A R.2.2.1.1).2.2)) hI (prgS_inv hA R.2.2.1.1 hn)
    have c1 : chP 0 pp = pp + 1 := if_neg (by decide)
    have c2 : chU 0 un = un1 un := if_neg (by decide)
    have ec : chgM (A, S, past, inp, lin, sv, pp, un, ep, fc) ((0 : Int32), (prgS R.2.2.1 A R.2.2.1.1).2.2) = ((prgS R.2.2.1 A R.2.2.1.1).2.2, S, updA past (pp % 9) A, inp, lin, sv, pp + 1, un1 un, ep, fc) := by
      show ((prgS R.2.2.1 A R.2.2.1.1).2.2, S, updA past (pp % 9) A, inp, lin, sv, chP 0 pp, chU 0 un, ep, fc) = _
      rw [c1, c2]
    rw [ec] at h
    show mInv (prgA R.2.2.1 A, S, updA past (pp % 9) A, (0, inp.2), lin, sv, prgP R.2.2.1 A pp, prgU R.2.2.1 A un, ep, if (prgS R.2.2.1 A R.2.2.1.1).1 = true then fc else prgV R.2.2.1 A)
    rw [e1, e2, e3]
    exact ⟨h.1, h.2.1, h.2.2.1, h.2.2.2.1, h.2.2.2.2.1, h.2.2.2.2.2.1, Nat.zero_le _, h.2.2.2.2.2.2.2.1, fun j hj => absurd hj (Nat.not_lt_zero j), h.2.2.2.2.2.2.2.2.2⟩
  · have e1 : prgA R.2.2.1 A = A := if_neg hk
    have e2 : prgP R.2.2.1 A pp = pp := if_neg hk
    have e3 : prgU R.2.2.1 A un = un := if_neg hk
    have h := inv_chg (r := ((-1 : Int32), A)) hI hA
    have c1 : chP (-1) pp = pp := if_pos (by decide)
    have c2 : chU (-1) un = un := if_pos (by decide)
    have ec : chgM (A, S, past, inp, lin, sv, pp, un, ep, fc) ((-1 : Int32), A) = (A, S, updA past (pp % 9) A, inp, lin, sv, pp, un, ep, fc) := by
      show (A, S, updA past (pp % 9) A, inp, lin, sv, chP (-1) pp, chU (-1) un, ep, fc) = _
      rw [c1, c2]
    rw [ec] at h
    show mInv (prgA R.2.2.1 A, S, updA past (pp % 9) A, (0, inp.2), lin, sv, prgP R.2.2.1 A pp, prgU R.2.2.1 A un, ep, if (prgS R.2.2.1 A R.2.2.1.1).1 = true then fc else prgV R.2.2.1 A)
    rw [e1, e2, e3]
    exact ⟨h.1, h.2.1, h.2.2.1, h.2.2.2.1, h.2.2.2.2.1, h.2.2.2.2.2.1, Nat.zero_le _, h.2.2.2.2.2.2.2.1, fun j hj => absurd hj (Nat.not_lt_zero j), h.2.2.2.2.2.2.2.2.2⟩

theorem d_MessageCoderModel_run_0 : decode prog_14_method_120_code 0 = .ok (.aload_n 0, 1) := by decide +kernel
theorem d_MessageCoderModel_run_1 : decode prog_14_method_120_code 1 = .ok (.invokevirtual 285, 3) := by decide +kernel
theorem d_MessageCoderModel_run_4 : decode prog_14_method_120_code 4 = .ok (.aload_n 0, 1) := by decide +kernel
theorem d_MessageCoderModel_run_5 : decode prog_14_method_120_code 5 = .ok (.iconst 0, 1) := by decide +kernel
theorem d_MessageCoderModel_run_6 : decode prog_14_method_120_code 6 = .ok (.putfield 236, 3) := by decide +kernel
theorem d_MessageCoderModel_run_9 : decode prog_14_method_120_code 9 = .ok (.aload_n 0, 1) := by decide +kernel
theorem d_MessageCoderModel_run_10 : decode prog_14_method_120_code 10 = .ok (.getfield 242, 3) := by decide +kernel
theorem d_MessageCoderModel_run_13 : decode prog_14_method_120_code 13 = .ok (.ifCond .lt 18, 3) := by decide +kernel
theorem d_MessageCoderModel_run_16 : decode prog_14_method_120_code 16 = .ok (.aload_n 0, 1) := by decide +kernel
theorem d_MessageCoderModel_run_17 : decode prog_14_method_120_code 17 = .ok (.aload_n 0, 1) := by decide +kernel
theorem d_MessageCoderModel_run_18 : decode prog_14_method_120_code 18 = .ok (.getfield 242, 3) := by decide +kernel
theorem d_MessageCoderModel_run_21 : decode prog_14_method_120_code 21 = .ok (.putfield 41, 3) := by decide +kernel
theorem d_MessageCoderModel_run_24 : decode prog_14_method_120_code 24 = .ok (.aload_n 0, 1) := by decide +kernel
theorem d_MessageCoderModel_run_25 : decode prog_14_method_120_code 25 = .ok (.iconst 1, 1) := by decide +kernel
theorem d_MessageCoderModel_run_26 : decode prog_14_method_120_code 26 = .ok (.putfield 51, 3) := by decide +kernel
theorem d_MessageCoderModel_run_29 : decode prog_14_method_120_code 29 = .ok (.iconst 0, 1) := by decide +kernel
theorem d_MessageCoderModel_run_30 : decode prog_14_method_120_code 30 = .ok (.ireturn, 1) := by decide +kernel
theorem d_MessageCoderModel_run_31 : decode prog_14_method_120_code 31 = .ok (.aload_n 0, 1) := by decide +kernel
theorem d_MessageCoderModel_run_32 : decode prog_14_method_120_code 32 = .ok (.invokevirtual 122, 3) := by decide +kernel
theorem d_MessageCoderModel_run_35 : decode prog_14_method_120_code 35 = .ok (.iconst 0, 1) := by decide +kernel
theorem d_MessageCoderModel_run_36 : decode prog_14_method_120_code 36 = .ok (.istore_n 1, 1) := by decide +kernel
theorem d_MessageCoderModel_run_37 : decode prog_14_method_120_code 37 = .ok (.iload_n 1, 1) := by decide +kernel
theorem d_MessageCoderModel_run_38 : decode prog_14_method_120_code 38 = .ok (.aload_n 0, 1) := by decide +kernel
theorem d_MessageCoderModel_run_39 : decode prog_14_method_120_code 39 = .ok (.getfield 264, 3) := by decide +kernel
theorem d_MessageCoderModel_run_42 : decode prog_14_method_120_code 42 = .ok (.if_icmp .ge 19, 3) := by decide +kernel
theorem d_MessageCoderModel_run_45 : decode prog_14_method_120_code 45 = .ok (.aload_n 0, 1) := by decide +kernel
theorem d_MessageCoderModel_run_46 : decode prog_14_method_120_code 46 = .ok (.iconst 3, 1) := by decide +kernel
theorem d_MessageCoderModel_run_47 : decode prog_14_method_120_code 47 = .ok (.iload_n 1, 1) := by decide +kernel
theorem d_MessageCoderModel_run_48 : decode prog_14_method_120_code 48 = .ok (.imul, 1) := by decide +kernel
theorem d_MessageCoderModel_run_49 : decode prog_14_method_120_code 49 = .ok (.invokevirtual 288, 3) := by decide +kernel
theorem d_MessageCoderModel_run_52 : decode prog_14_method_120_code 52 = .ok (.ifCond .ne 9, 3) := by decide +kernel
theorem d_MessageCoderModel_run_55 : decode prog_14_method_120_code 55 = .ok (.iinc 1 1, 3) := by decide +kernel
theorem d_MessageCoderModel_run_58 : decode prog_14_method_120_code 58 = .ok (.goto (-21), 3) := by decide +kernel
theorem d_MessageCoderModel_run_61 : decode prog_14_method_120_code 61 = .ok (.iload_n 1, 1) := by decide +kernel
theorem d_MessageCoderModel_run_62 : decode prog_14_method_120_code 62 = .ok (.aload_n 0, 1) := by decide +kernel
theorem d_MessageCoderModel_run_63 : decode prog_14_method_120_code 63 = .ok (.getfield 264, 3) := by decide +kernel
theorem d_MessageCoderModel_run_66 : decode prog_14_method_120_code 66 = .ok (.if_icmp .ne 7, 3) := by decide +kernel
theorem d_MessageCoderModel_run_69 : decode prog_14_method_120_code 69 = .ok (.iconst 1, 1) := by decide +kernel
theorem d_MessageCoderModel_run_70 : decode prog_14_method_120_code 70 = .ok (.goto 4, 3) := by decide +kernel
theorem d_MessageCoderModel_run_73 : decode prog_14_method_120_code 73 = .ok (.iconst 0, 1) := by decide +kernel
theorem d_MessageCoderModel_run_74 : decode prog_14_method_120_code 74 = .ok (.istore_n 2, 1) := by decide +kernel
theorem d_MessageCoderModel_run_75 : decode prog_14_method_120_code 75 = .ok (.aload_n 0, 1) := by decide +kernel
theorem d_MessageCoderModel_run_76 : decode prog_14_method_120_code 76 = .ok (.iload_n 2, 1) := by decide +kernel
theorem d_MessageCoderModel_run_77 : decode prog_14_method_120_code 77 = .ok (.ifCond .eq 10, 3) := by decide +kernel
theorem d_MessageCoderModel_run_80 : decode prog_14_method_120_code 80 = .ok (.aload_n 0, 1) := by decide +kernel
theorem d_MessageCoderModel_run_81 : decode prog_14_method_120_code 81 = .ok (.getfield 45, 3) := by decide +kernel
theorem d_MessageCoderModel_run_84 : decode prog_14_method_120_code 84 = .ok (.goto 4, 3) := by decide +kernel
theorem d_MessageCoderModel_run_87 : decode prog_14_method_120_code 87 = .ok (.iload_n 1, 1) := by decide +kernel
theorem d_MessageCoderModel_run_88 : decode prog_14_method_120_code 88 = .ok (.putfield 45, 3) := by decide +kernel
theorem d_MessageCoderModel_run_91 : decode prog_14_method_120_code 91 = .ok (.aload_n 0, 1) := by decide +kernel
theorem d_MessageCoderModel_run_92 : decode prog_14_method_120_code 92 = .ok (.aload_n 0, 1) := by decide +kernel
theorem d_MessageCoderModel_run_93 : decode prog_14_method_120_code 93 = .ok (.getfield 264, 3) := by decide +kernel
theorem d_MessageCoderModel_run_96 : decode prog_14_method_120_code 96 = .ok (.putfield 61, 3) := by decide +kernel
theorem d_MessageCoderModel_run_99 : decode prog_14_method_120_code 99 = .ok (.aload_n 0, 1) := by decide +kernel
theorem d_MessageCoderModel_run_100 : decode prog_14_method_120_code 100 = .ok (.iload_n 2, 1) := by decide +kernel
theorem d_MessageCoderModel_run_101 : decode prog_14_method_120_code 101 = .ok (.ifCond .eq 7, 3) := by decide +kernel
theorem d_MessageCoderModel_run_104 : decode prog_14_method_120_code 104 = .ok (.iconst 0, 1) := by decide +kernel
theorem d_MessageCoderModel_run_105 : decode prog_14_method_120_code 105 = .ok (.goto 4, 3) := by decide +kernel
theorem d_MessageCoderModel_run_108 : decode prog_14_method_120_code 108 = .ok (.iconst 2, 1) := by decide +kernel
theorem d_MessageCoderModel_run_109 : decode prog_14_method_120_code 109 = .ok (.iconst 0, 1) := by decide +kernel
theorem d_MessageCoderModel_run_110 : decode prog_14_method_120_code 110 = .ok (.iconst 2, 1) := by decide +kernel
theorem d_MessageCoderModel_run_111 : decode prog_14_method_120_code 111 = .ok (.iconst 0, 1) := by decide +kernel
theorem d_MessageCoderModel_run_112 : decode prog_14_method_120_code 112 = .ok (.iconst 0, 1) := by decide +kernel
theorem d_MessageCoderModel_run_113 : decode prog_14_method_120_code 113 = .ok (.invokevirtual 128, 3) := by decide +kernel
theorem d_MessageCoderModel_run_116 : decode prog_14_method_120_code 116 = .ok (.ireturn, 1) := by decide +kernel
set_option maxHeartbeats 4000000 in
set_option maxRecDepth 20000 in
theorem c_MessageCoderModel_run {P : xP} {F : xF} {z : Nat} {m : Nat} {th0 : Nat} {M : mcS} {R : rS} (hD : xMD F (m) (th0) (M)) (hI : mInv M) (hR0 : rdS M.2.2.2.1.1 M.2.2.2.1.2 60 = R) (hKn0 : M.1.2.2.1.2.1 + R.2.2.1.1 ≤ 999) : xM P xy_MessageCoderModel_run [.ref m] F (z) 0 0 (fun r9 F9 z9 => r9 = some (.int (nI (if R.1 = 1 then if (prgS R.2.2.1 M.1 R.2.2.1.1).1 = true then R.2.2.2 else 0 else 0))) ∧ z9 = z ∧ xMD F9 (m) ((if R.1 = 1 then if (prgS R.2.2.1 M.1 R.2.2.1.1).1 = true then 0 else 2 else 1)) ((if R.1 = 1 then runO M R else runE M R)) ∧ (∀ a9 : Nat, (a9 < m ∨ m + 12 ≤ a9) → F9 a9 = F a9)) := by
  refine xM_i .int rfl (Nat.le_of_ble_eq_true rfl) (L0 := [some (.ref m), none, none]) rfl rfl fun Θ hC hret => ?_
  have hag : ∀ a9 : Nat, (a9 < m ∨ m + 12 ≤ a9) → F a9 = F a9 := fun a9 _ => rfl
  obtain ⟨A, S, past, ⟨pn, psg⟩, ⟨lnn, lsg⟩, sv, pp, un, ep, fc⟩ := M
  obtain ⟨rs, er, bm, dm, he, cn, g, l2, v3, r4, w5, b6, d7, b8, ln, ip, cs, o0, ga, h2, h3, h4, h5, h6, h7, h8, h9, hi, hcm, hg, hln, hip⟩ := id hD
  obtain ⟨iA, iP, iS, hu8, hup, hs1, hty, hlz, hic, hlc⟩ := id hI
  have o0 : F (m) = some (.inl (10, [.int (nI (th0)), .ref (m + 1), .int (nI (un)), .int (nI (sv)), .int rs, .ref (m + 2), .ref (m + 3), .ref (m + 4), .ref (m + 5), .ref (m + 6), .int (nI (bm)), .ref (m + 7), .int (nI (dm)), .ref (m + 8), .ref (m + 9), .int (nI (lnn)), .ref (m + 10), .int (nI (pn)), .int (nI (he)), .int er, .int ep, .int fc, .ref (m + 11), .int (nI (cn))])) := o0
  have ga : F (m + 1) = some (.inr (0, 4730, fun b9 => .int (nI (g b9)))) := ga
  have h2 : F (m + 2) = some (.inr (0, 8, fun b9 => .int (nI (l2 b9)))) := h2
  have h3 : F (m + 3) = some (.inr (0, 8, fun b9 => .int (nI (v3 b9)))) := h3
  have h4 : F (m + 4) = some (.inr (0, 8, fun b9 => .int (nI (r4 b9)))) := h4
  have h5 : F (m + 5) = some (.inr (0, 8, fun b9 => .int (nI (w5 b9)))) := h5
  have h6 : F (m + 6) = some (.inr (0, 112, fun b9 => .int (nI (b6 b9)))) := h6
  have h7 : F (m + 7) = some (.inr (0, 16, fun b9 => .int (nI (d7 b9)))) := h7
  have h8 : F (m + 8) = some (.inr (0, 17, fun b9 => .int (nI (b8 b9)))) := h8
  have h9 : F (m + 9) = some (.inr (1, 40, fun b9 => .int (nI (ln b9)))) := h9
  have hi : F (m + 10) = some (.inr (1, 60, fun b9 => .int (nI (ip b9)))) := hi
  have hcm : F (m + 11) = some (.inr (0, 183, fun b9 => .int (nI (cs b9)))) := hcm
  have hln : ∀ j, j < lnn → ln j = lsg j := hln
  have hip : ∀ j, j < pn → ip j = psg j := hip
  have iA : aInv A := iA
  have hu8 : un ≤ 8 := hu8
  have hup : un ≤ pp := hup
  have hs1 : sv ≤ 1 := hs1
  have hty : pn ≤ 60 := hty
  have hlz : lnn ≤ 32 := hlz
  have hr : rRow g A := hg.1
  have hR9 : rdS pn psg 60 = R := hR0
  have hKn : A.2.2.1.2.1 + R.2.2.1.1 ≤ 999 := hKn0
  have hsi : ∀ j, j < pn → ip j < 65536 := fun j hj => by rw [hip j hj]; exact hic j hj
  have hRx : rdS pn ip 60 = R := (rdS_x hip 60).trans hR9
  refine x_aload_n hC d_MessageCoderModel_run_0 rfl rfl ?_
  refine x_callV hC kv_MessageCoderModel_285 (c_MessageCoderModel_parse (o0 := o0) (hi := hi) (hcm := hcm) (hs := hsi) (hty := hty)) o0 rfl rfl (by decide) rfl rfl rfl (Nat.le_of_ble_eq_true rfl) (by decide) d_MessageCoderModel_run_1 (fun r9 F9 z9 hp9 => ?_)
  obtain ⟨h1_1, e1_1, cs1_1, cn1_1, rfl, h9c, j0, j1, j2, pk_1, pb_1, hag9⟩ := hp9
  rw [h9c]
  clear h9c z9
  generalize F9 = F1 at *
  have ga : F1 (m + 1) = some (.inr (0, 4730, fun b9 => .int (nI (g b9)))) := (hag9 _ (by omega) (by omega)).trans ga
  have h2 : F1 (m + 2) = some (.inr (0, 8, fun b9 => .int (nI (l2 b9)))) := (hag9 _ (by omega) (by omega)).trans h2
  have h3 : F1 (m + 3) = some (.inr (0, 8, fun b9 => .int (nI (v3 b9)))) := (hag9 _ (by omega) (by omega)).trans h3
  have h4 : F1 (m + 4) = some (.inr (0, 8, fun b9 => .int (nI (r4 b9)))) := (hag9 _ (by omega) (by omega)).trans h4
  have h5 : F1 (m + 5) = some (.inr (0, 8, fun b9 => .int (nI (w5 b9)))) := (hag9 _ (by omega) (by omega)).trans h5
  have h6 : F1 (m + 6) = some (.inr (0, 112, fun b9 => .int (nI (b6 b9)))) := (hag9 _ (by omega) (by omega)).trans h6
  have h7 : F1 (m + 7) = some (.inr (0, 16, fun b9 => .int (nI (d7 b9)))) := (hag9 _ (by omega) (by omega)).trans h7
  have h8 : F1 (m + 8) = some (.inr (0, 17, fun b9 => .int (nI (b8 b9)))) := (hag9 _ (by omega) (by omega)).trans h8
  have h9 : F1 (m + 9) = some (.inr (1, 40, fun b9 => .int (nI (ln b9)))) := (hag9 _ (by omega) (by omega)).trans h9
  have o0 : F1 (m) = some (.inl (10, [.int (nI (th0)), .ref (m + 1), .int (nI (un)), .int (nI (sv)), .int rs, .ref (m + 2), .ref (m + 3), .ref (m + 4), .ref (m + 5), .ref (m + 6), .int (nI (bm)), .ref (m + 7), .int (nI (dm)), .ref (m + 8), .ref (m + 9), .int (nI (lnn)), .ref (m + 10), .int (nI (pn)), .int (nI (h1_1)), .int (eI (e1_1)), .int ep, .int fc, .ref (m + 11), .int (nI (cn1_1))])) := j0
  have hi : F1 (m + 10) = some (.inr (1, 60, fun b9 => .int (nI (ip b9)))) := j1
  have hcm : F1 (m + 11) = some (.inr (0, 183, fun b9 => .int (nI (cs1_1 b9)))) := j2
  have hag : ∀ a9 : Nat, (a9 < m ∨ m + 12 ≤ a9) → F1 a9 = F a9 := fun a9 q0 => (hag9 a9 (by omega) (by omega)).trans (hag a9 q0)
  have hg_1 := hag9
  clear hag9
  obtain ⟨hp1, hp2⟩ := pk_1 R hRx
  have hqe : e1_1 ≤ pn + 1 := pb_1.2
  refine x_aload_n hC d_MessageCoderModel_run_4 rfl rfl ?_
  refine x_iconst hC d_MessageCoderModel_run_5 (v := nI 0) (by decide) ?_
  refine x_putf hC kf_MessageCoderModel_236 o0 (Nat.le_of_ble_eq_true rfl) rfl rfl d_MessageCoderModel_run_6 (fs1 := [.int (nI (th0)), .ref (m + 1), .int (nI (un)), .int (nI (sv)), .int rs, .ref (m + 2), .ref (m + 3), .ref (m + 4), .ref (m + 5), .ref (m + 6), .int (nI (bm)), .ref (m + 7), .int (nI (dm)), .ref (m + 8), .ref (m + 9), .int (nI (lnn)), .ref (m + 10), .int (nI 0), .int (nI (h1_1)), .int (eI (e1_1)), .int ep, .int fc, .ref (m + 11), .int (nI (cn1_1))]) rfl ?_
  generalize e2 : xup F1 (m) (.inl (10, [.int (nI (th0)), .ref (m + 1), .int (nI (un)), .int (nI (sv)), .int rs, .ref (m + 2), .ref (m + 3), .ref (m + 4), .ref (m + 5), .ref (m + 6), .int (nI (bm)), .ref (m + 7), .int (nI (dm)), .ref (m + 8), .ref (m + 9), .int (nI (lnn)), .ref (m + 10), .int (nI 0), .int (nI (h1_1)), .int (eI (e1_1)), .int ep, .int fc, .ref (m + 11), .int (nI (cn1_1))])) = F2
  have ga : F2 (m + 1) = some (.inr (0, 4730, fun b9 => .int (nI (g b9)))) := by rw [← e2]; exact (xup_ne (by omega)).trans ga
  have h2 : F2 (m + 2) = some (.inr (0, 8, fun b9 => .int (nI (l2 b9)))) := by rw [← e2]; exact (xup_ne (by omega)).trans h2
  have h3 : F2 (m + 3) = some (.inr (0, 8, fun b9 => .int (nI (v3 b9)))) := by rw [← e2]; exact (xup_ne (by omega)).trans h3
  have h4 : F2 (m + 4) = some (.inr (0, 8, fun b9 => .int (nI (r4 b9)))) := by rw [← e2]; exact (xup_ne (by omega)).trans h4
  have h5 : F2 (m + 5) = some (.inr (0, 8, fun b9 => .int (nI (w5 b9)))) := by rw [← e2]; exact (xup_ne (by omega)).trans h5
  have h6 : F2 (m + 6) = some (.inr (0, 112, fun b9 => .int (nI (b6 b9)))) := by rw [← e2]; exact (xup_ne (by omega)).trans h6
  have h7 : F2 (m + 7) = some (.inr (0, 16, fun b9 => .int (nI (d7 b9)))) := by rw [← e2]; exact (xup_ne (by omega)).trans h7
  have h8 : F2 (m + 8) = some (.inr (0, 17, fun b9 => .int (nI (b8 b9)))) := by rw [← e2]; exact (xup_ne (by omega)).trans h8
  have h9 : F2 (m + 9) = some (.inr (1, 40, fun b9 => .int (nI (ln b9)))) := by rw [← e2]; exact (xup_ne (by omega)).trans h9
  have o0 : F2 (m) = some (.inl (10, [.int (nI (th0)), .ref (m + 1), .int (nI (un)), .int (nI (sv)), .int rs, .ref (m + 2), .ref (m + 3), .ref (m + 4), .ref (m + 5), .ref (m + 6), .int (nI (bm)), .ref (m + 7), .int (nI (dm)), .ref (m + 8), .ref (m + 9), .int (nI (lnn)), .ref (m + 10), .int (nI 0), .int (nI (h1_1)), .int (eI (e1_1)), .int ep, .int fc, .ref (m + 11), .int (nI (cn1_1))])) := by rw [← e2]; exact xup_eq
  have hi : F2 (m + 10) = some (.inr (1, 60, fun b9 => .int (nI (ip b9)))) := by rw [← e2]; exact (xup_ne (by omega)).trans hi
  have hcm : F2 (m + 11) = some (.inr (0, 183, fun b9 => .int (nI (cs1_1 b9)))) := by rw [← e2]; exact (xup_ne (by omega)).trans hcm
  have hag : ∀ a9 : Nat, (a9 < m ∨ m + 12 ≤ a9) → F2 a9 = F a9 := fun a9 q0 => by rw [← e2]; exact (xup_ne (by omega)).trans (hag a9 q0)
  refine x_aload_n hC d_MessageCoderModel_run_9 rfl rfl ?_
  refine x_getf hC kf_MessageCoderModel_242 o0 rfl d_MessageCoderModel_run_10 ?_
  refine x_if_lt hC d_MessageCoderModel_run_13 (tgt := 31) (by decide) (fun c_13 => ?_) (fun c_13 => ?_)
  · skip
    have he0 : e1_1 = 0 := (eI_lt (by omega)).mp c_13
    obtain ⟨hr1, hcnR, hRc, hcn6, hrow⟩ := hp2 he0
    refine x_aload_n hC d_MessageCoderModel_run_31 rfl rfl ?_
    refine x_callV hC kv_MessageCoderModel_122 (c_MessageCoderModel_begins (o0 := o0) (ga := ga)) o0 rfl rfl (by decide) rfl rfl rfl (Nat.le_of_ble_eq_true rfl) (by decide) d_MessageCoderModel_run_32 (fun r9 F9 z9 hp9 => ?_)
    obtain ⟨rfl, h9c, j0, j1, hag9⟩ := hp9
    rw [h9c]
    clear h9c z9
    generalize F9 = F3 at *
    have h2 : F3 (m + 2) = some (.inr (0, 8, fun b9 => .int (nI (l2 b9)))) := (hag9 _ (by omega)).trans h2
    have h3 : F3 (m + 3) = some (.inr (0, 8, fun b9 => .int (nI (v3 b9)))) := (hag9 _ (by omega)).trans h3
    have h4 : F3 (m + 4) = some (.inr (0, 8, fun b9 => .int (nI (r4 b9)))) := (hag9 _ (by omega)).trans h4
    have h5 : F3 (m + 5) = some (.inr (0, 8, fun b9 => .int (nI (w5 b9)))) := (hag9 _ (by omega)).trans h5
    have h6 : F3 (m + 6) = some (.inr (0, 112, fun b9 => .int (nI (b6 b9)))) := (hag9 _ (by omega)).trans h6
    have h7 : F3 (m + 7) = some (.inr (0, 16, fun b9 => .int (nI (d7 b9)))) := (hag9 _ (by omega)).trans h7
    have h8 : F3 (m + 8) = some (.inr (0, 17, fun b9 => .int (nI (b8 b9)))) := (hag9 _ (by omega)).trans h8
    have h9 : F3 (m + 9) = some (.inr (1, 40, fun b9 => .int (nI (ln b9)))) := (hag9 _ (by omega)).trans h9
    have hi : F3 (m + 10) = some (.inr (1, 60, fun b9 => .int (nI (ip b9)))) := (hag9 _ (by omega)).trans hi
    have hcm : F3 (m + 11) = some (.inr (0, 183, fun b9 => .int (nI (cs1_1 b9)))) := (hag9 _ (by omega)).trans hcm
    have o0 : F3 (m) = some (.inl (10, [.int (nI (th0)), .ref (m + 1), .int (nI (un)), .int (nI (sv)), .int rs, .ref (m + 2), .ref (m + 3), .ref (m + 4), .ref (m + 5), .ref (m + 6), .int (nI (bm)), .ref (m + 7), .int (nI (dm)), .ref (m + 8), .ref (m + 9), .int (nI (lnn)), .ref (m + 10), .int (nI 0), .int (nI (h1_1)), .int ((eI (e1_1))), .int ep, .int fc, .ref (m + 11), .int (nI (cn1_1))])) := j0
    have ga : F3 (m + 1) = some (.inr (0, 4730, fun b9 => .int (nI ((cpyR g 0 10) b9)))) := j1
    have hag : ∀ a9 : Nat, (a9 < m ∨ m + 12 ≤ a9) → F3 a9 = F a9 := fun a9 q0 => (hag9 a9 (by omega)).trans (hag a9 q0)
    have hg_32 := hag9
    clear hag9
    refine x_iconst hC d_MessageCoderModel_run_35 (v := nI 0) (by decide) ?_
    refine x_istore_n hC d_MessageCoderModel_run_36 rfl (Nat.le_of_ble_eq_true rfl) (L1 := [some (.ref m), some (.int (nI 0)), none]) rfl ?_
    have loop_37 : ∀ (m9 : Nat) (Fh37 : xF) (i : Nat) (B : aS) (g2 : Nat → Nat) (rs2 : Int32) (bm2 : Nat) (dm2 : Nat) (lA : Nat → Nat) (vA : Nat → Nat) (rA : Nat → Nat) (wA : Nat → Nat) (bA : Nat → Nat) (dA : Nat → Nat), (Fh37 (m) = some (.inl (10, [.int (nI (th0)), .ref (m + 1), .int (nI (un)), .int (nI (sv)), .int rs2, .ref (m + 2), .ref (m + 3), .ref (m + 4), .ref (m + 5), .ref (m + 6), .int (nI (bm2)), .ref (m + 7), .int (nI (dm2)), .ref (m + 8), .ref (m + 9), .int (nI (lnn)), .ref (m + 10), .int (nI 0), .int (nI (h1_1)), .int (eI (e1_1)), .int ep, .int fc, .ref (m + 11), .int (nI (cn1_1))]))) → (Fh37 (m + 1) = some (.inr (0, 4730, fun b9 => .int (nI (g2 b9))))) → (Fh37 (m + 2) = some (.inr (0, 8, fun b9 => .int (nI (lA b9))))) → (Fh37 (m + 3) = some (.inr (0, 8, fun b9 => .int (nI (vA b9))))) → (Fh37 (m + 4) = some (.inr (0, 8, fun b9 => .int (nI (rA b9))))) → (Fh37 (m + 5) = some (.inr (0, 8, fun b9 => .int (nI (wA b9))))) → (Fh37 (m + 6) = some (.inr (0, 112, fun b9 => .int (nI (bA b9))))) → (Fh37 (m + 7) = some (.inr (0, 16, fun b9 => .int (nI (dA b9))))) → (Fh37 (m + 8) = some (.inr (0, 17, fun b9 => .int (nI (b8 b9))))) → (Fh37 (m + 9) = some (.inr (1, 40, fun b9 => .int (nI (ln b9))))) → (Fh37 (m + 10) = some (.inr (1, 60, fun b9 => .int (nI (ip b9))))) → (Fh37 (m + 11) = some (.inr (0, 183, fun b9 => .int (nI (cs1_1 b9))))) → (∀ a9 : Nat, (a9 < m ∨ m + 12 ≤ a9) → Fh37 a9 = F a9) → (i ≤ cn1_1) → (prgS R.2.2.1 A (psC pn ip i) = (true, psC pn ip i, B)) → (rRow g2 B) → (aInv B) → (∀ q, 430 ≤ q → g2 q = cpyR g 0 10 q) → (cn1_1 - i < m9) → xX P Θ 37 [some (.ref m), some (.int (nI (i))), none] [] Fh37 (z) 0 0 := by
      intro m9
      induction m9 with
      | zero => intros; omega
      | succ m9 ih_37 =>
        intro Fh37 i B g2 rs2 bm2 dm2 lA vA rA wA bA dA o0 ga h2 h3 h4 h5 h6 h7 h8 h9 hi hcm hag hi9 hB1 hB2 hB3 ho hm_37
        refine x_iload_n hC d_MessageCoderModel_run_37 rfl rfl ?_
        refine x_aload_n hC d_MessageCoderModel_run_38 rfl rfl ?_
        refine x_getf hC kf_MessageCoderModel_264 o0 rfl d_MessageCoderModel_run_39 ?_
        refine x_icmpN_ge hC d_MessageCoderModel_run_42 (tgt := 61) (by decide) (by omega) (by omega) (fun c_42 => ?_) (fun c_42 => ?_)
        · skip
          have hic9 : i = cn1_1 := by omega
          have hBf : prgS R.2.2.1 A R.2.2.1.1 = (true, R.2.2.1.1, B) := by have h9 := hB1; rw [hic9] at h9; unfold psC at h9; rw [hRc] at h9; exact h9
          refine x_iload_n hC d_MessageCoderModel_run_61 rfl rfl ?_
          refine x_aload_n hC d_MessageCoderModel_run_62 rfl rfl ?_
          refine x_getf hC kf_MessageCoderModel_264 o0 rfl d_MessageCoderModel_run_63 ?_
          refine x_icmpN_ne hC d_MessageCoderModel_run_66 (tgt := 73) (by decide) (by omega) (by omega) (fun c_66 => ?_) (fun c_66 => ?_)
          · skip
            exact absurd c_66 (by omega)
          · skip
            refine x_iconst hC d_MessageCoderModel_run_69 (v := nI 1) (by decide) ?_
            refine x_goto hC d_MessageCoderModel_run_70 (tgt := 74) (by decide) ?_
            refine x_istore_n hC d_MessageCoderModel_run_74 rfl (Nat.le_of_ble_eq_true rfl) (L1 := [some (.ref m), some (.int (nI (i))), some (.int (nI 1))]) rfl ?_
            refine x_aload_n hC d_MessageCoderModel_run_75 rfl rfl ?_
            refine x_iload_n hC d_MessageCoderModel_run_76 rfl rfl ?_
            refine x_ifN_eq hC d_MessageCoderModel_run_77 (tgt := 87) (by decide) (by omega) (fun c_77 => ?_) (fun c_77 => ?_)
            · skip
              exact absurd c_77 (by omega)
            · skip
              refine x_aload_n hC d_MessageCoderModel_run_80 rfl rfl ?_
              refine x_getf hC kf_MessageCoderModel_45 o0 rfl d_MessageCoderModel_run_81 ?_
              refine x_goto hC d_MessageCoderModel_run_84 (tgt := 88) (by decide) ?_
              refine x_putf hC kf_MessageCoderModel_45 o0 (Nat.le_of_ble_eq_true rfl) rfl rfl d_MessageCoderModel_run_88 (fs1 := [.int (nI (th0)), .ref (m + 1), .int (nI (un)), .int (nI (sv)), .int rs2, .ref (m + 2), .ref (m + 3), .ref (m + 4), .ref (m + 5), .ref (m + 6), .int (nI (bm2)), .ref (m + 7), .int (nI (dm2)), .ref (m + 8), .ref (m + 9), .int (nI (lnn)), .ref (m + 10), .int (nI 0), .int (nI (h1_1)), .int (eI (e1_1)), .int ep, .int fc, .ref (m + 11), .int (nI (cn1_1))]) rfl ?_
              generalize e4 : xup Fh37 (m) (.inl (10, [.int (nI (th0)), .ref (m + 1), .int (nI (un)), .int (nI (sv)), .int rs2, .ref (m + 2), .ref (m + 3), .ref (m + 4), .ref (m + 5), .ref (m + 6), .int (nI (bm2)), .ref (m + 7), .int (nI (dm2)), .ref (m + 8), .ref (m + 9), .int (nI (lnn)), .ref (m + 10), .int (nI 0), .int (nI (h1_1)), .int (eI (e1_1)), .int ep, .int fc, .ref (m + 11), .int (nI (cn1_1))])) = F4
              have o0 : F4 (m) = some (.inl (10, [.int (nI (th0)), .ref (m + 1), .int (nI (un)), .int (nI (sv)), .int rs2, .ref (m + 2), .ref (m + 3), .ref (m + 4), .ref (m + 5), .ref (m + 6), .int (nI (bm2)), .ref (m + 7), .int (nI (dm2)), .ref (m + 8), .ref (m + 9), .int (nI (lnn)), .ref (m + 10), .int (nI 0), .int (nI (h1_1)), .int (eI (e1_1)), .int ep, .int fc, .ref (m + 11), .int (nI (cn1_1))])) := by rw [← e4]; exact xup_eq
              have ga : F4 (m + 1) = some (.inr (0, 4730, fun b9 => .int (nI (g2 b9)))) := by rw [← e4]; exact (xup_ne (by omega)).trans ga
              have h2 : F4 (m + 2) = some (.inr (0, 8, fun b9 => .int (nI (lA b9)))) := by rw [← e4]; exact (xup_ne (by omega)).trans h2
              have h3 : F4 (m + 3) = some (.inr (0, 8, fun b9 => .int (nI (vA b9)))) := by rw [← e4]; exact (xup_ne (by omega)).trans h3
              have h4 : F4 (m + 4) = some (.inr (0, 8, fun b9 => .int (nI (rA b9)))) := by rw [← e4]; exact (xup_ne (by omega)).trans h4
              have h5 : F4 (m + 5) = some (.inr (0, 8, fun b9 => .int (nI (wA b9)))) := by rw [← e4]; exact (xup_ne (by omega)).trans h5
              have h6 : F4 (m + 6) = some (.inr (0, 112, fun b9 => .int (nI (bA b9)))) := by rw [← e4]; exact (xup_ne (by omega)).trans h6
              have h7 : F4 (m + 7) = some (.inr (0, 16, fun b9 => .int (nI (dA b9)))) := by rw [← e4]; exact (xup_ne (by omega)).trans h7
              have h8 : F4 (m + 8) = some (.inr (0, 17, fun b9 => .int (nI (b8 b9)))) := by rw [← e4]; exact (xup_ne (by omega)).trans h8
              have h9 : F4 (m + 9) = some (.inr (1, 40, fun b9 => .int (nI (ln b9)))) := by rw [← e4]; exact (xup_ne (by omega)).trans h9
              have hi : F4 (m + 10) = some (.inr (1, 60, fun b9 => .int (nI (ip b9)))) := by rw [← e4]; exact (xup_ne (by omega)).trans hi
              have hcm : F4 (m + 11) = some (.inr (0, 183, fun b9 => .int (nI (cs1_1 b9)))) := by rw [← e4]; exact (xup_ne (by omega)).trans hcm
              have hag : ∀ a9 : Nat, (a9 < m ∨ m + 12 ≤ a9) → F4 a9 = F a9 := fun a9 q0 => by rw [← e4]; exact (xup_ne (by omega)).trans (hag a9 q0)
              refine x_aload_n hC d_MessageCoderModel_run_91 rfl rfl ?_
              refine x_aload_n hC d_MessageCoderModel_run_92 rfl rfl ?_
              refine x_getf hC kf_MessageCoderModel_264 o0 rfl d_MessageCoderModel_run_93 ?_
              refine x_putf hC kf_MessageCoderModel_61 o0 (Nat.le_of_ble_eq_true rfl) rfl rfl d_MessageCoderModel_run_96 (fs1 := [.int (nI (th0)), .ref (m + 1), .int (nI (un)), .int (nI (sv)), .int (nI (cn1_1)), .ref (m + 2), .ref (m + 3), .ref (m + 4), .ref (m + 5), .ref (m + 6), .int (nI (bm2)), .ref (m + 7), .int (nI (dm2)), .ref (m + 8), .ref (m + 9), .int (nI (lnn)), .ref (m + 10), .int (nI 0), .int (nI (h1_1)), .int (eI (e1_1)), .int ep, .int fc, .ref (m + 11), .int (nI (cn1_1))]) rfl ?_
              generalize e5 : xup F4 (m) (.inl (10, [.int (nI (th0)), .ref (m + 1), .int (nI (un)), .int (nI (sv)), .int (nI (cn1_1)), .ref (m + 2), .ref (m + 3), .ref (m + 4), .ref (m + 5), .ref (m + 6), .int (nI (bm2)), .ref (m + 7), .int (nI (dm2)), .ref (m + 8), .ref (m + 9), .int (nI (lnn)), .ref (m + 10), .int (nI 0), .int (nI (h1_1)), .int (eI (e1_1)), .int ep, .int fc, .ref (m + 11), .int (nI (cn1_1))])) = F5
              have o0 : F5 (m) = some (.inl (10, [.int (nI (th0)), .ref (m + 1), .int (nI (un)), .int (nI (sv)), .int (nI (cn1_1)), .ref (m + 2), .ref (m + 3), .ref (m + 4), .ref (m + 5), .ref (m + 6), .int (nI (bm2)), .ref (m + 7), .int (nI (dm2)), .ref (m + 8), .ref (m + 9), .int (nI (lnn)), .ref (m + 10), .int (nI 0), .int (nI (h1_1)), .int (eI (e1_1)), .int ep, .int fc, .ref (m + 11), .int (nI (cn1_1))])) := by rw [← e5]; exact xup_eq
              have ga : F5 (m + 1) = some (.inr (0, 4730, fun b9 => .int (nI (g2 b9)))) := by rw [← e5]; exact (xup_ne (by omega)).trans ga
              have h2 : F5 (m + 2) = some (.inr (0, 8, fun b9 => .int (nI (lA b9)))) := by rw [← e5]; exact (xup_ne (by omega)).trans h2
              have h3 : F5 (m + 3) = some (.inr (0, 8, fun b9 => .int (nI (vA b9)))) := by rw [← e5]; exact (xup_ne (by omega)).trans h3
              have h4 : F5 (m + 4) = some (.inr (0, 8, fun b9 => .int (nI (rA b9)))) := by rw [← e5]; exact (xup_ne (by omega)).trans h4
              have h5 : F5 (m + 5) = some (.inr (0, 8, fun b9 => .int (nI (wA b9)))) := by rw [← e5]; exact (xup_ne (by omega)).trans h5
              have h6 : F5 (m + 6) = some (.inr (0, 112, fun b9 => .int (nI (bA b9)))) := by rw [← e5]; exact (xup_ne (by omega)).trans h6
              have h7 : F5 (m + 7) = some (.inr (0, 16, fun b9 => .int (nI (dA b9)))) := by rw [← e5]; exact (xup_ne (by omega)).trans h7
              have h8 : F5 (m + 8) = some (.inr (0, 17, fun b9 => .int (nI (b8 b9)))) := by rw [← e5]; exact (xup_ne (by omega)).trans h8
              have h9 : F5 (m + 9) = some (.inr (1, 40, fun b9 => .int (nI (ln b9)))) := by rw [← e5]; exact (xup_ne (by omega)).trans h9
              have hi : F5 (m + 10) = some (.inr (1, 60, fun b9 => .int (nI (ip b9)))) := by rw [← e5]; exact (xup_ne (by omega)).trans hi
              have hcm : F5 (m + 11) = some (.inr (0, 183, fun b9 => .int (nI (cs1_1 b9)))) := by rw [← e5]; exact (xup_ne (by omega)).trans hcm
              have hag : ∀ a9 : Nat, (a9 < m ∨ m + 12 ≤ a9) → F5 a9 = F a9 := fun a9 q0 => by rw [← e5]; exact (xup_ne (by omega)).trans (hag a9 q0)
              refine x_aload_n hC d_MessageCoderModel_run_99 rfl rfl ?_
              refine x_iload_n hC d_MessageCoderModel_run_100 rfl rfl ?_
              refine x_ifN_eq hC d_MessageCoderModel_run_101 (tgt := 108) (by decide) (by omega) (fun c_101 => ?_) (fun c_101 => ?_)
              · skip
                exact absurd c_101 (by omega)
              · skip
                refine x_iconst hC d_MessageCoderModel_run_104 (v := nI 0) (by decide) ?_
                refine x_goto hC d_MessageCoderModel_run_105 (tgt := 109) (by decide) ?_
                refine x_iconst hC d_MessageCoderModel_run_109 (v := nI 0) (by decide) ?_
                refine x_iconst hC d_MessageCoderModel_run_110 (v := nI 2) (by decide) ?_
                refine x_iconst hC d_MessageCoderModel_run_111 (v := nI 0) (by decide) ?_
                refine x_iconst hC d_MessageCoderModel_run_112 (v := nI 0) (by decide) ?_
                refine x_callV hC kv_MessageCoderModel_128 (c_MessageCoderModel_ends (o0 := o0) (ga := ga) (hy := by omega) (h1 := by omega) (h2 := by omega) (h3 := by omega) (h4 := by omega) (hch := by omega)) o0 rfl rfl (by decide) rfl rfl rfl (Nat.le_of_ble_eq_true rfl) (by decide) d_MessageCoderModel_run_113 (fun r9 F9 z9 hp9 => ?_)
                obtain ⟨rfl, h9c, j0, j1, hag9⟩ := hp9
                rw [h9c]
                clear h9c z9
                generalize F9 = F6 at *
                have h2 : F6 (m + 2) = some (.inr (0, 8, fun b9 => .int (nI (lA b9)))) := (hag9 _ (by omega)).trans h2
                have h3 : F6 (m + 3) = some (.inr (0, 8, fun b9 => .int (nI (vA b9)))) := (hag9 _ (by omega)).trans h3
                have h4 : F6 (m + 4) = some (.inr (0, 8, fun b9 => .int (nI (rA b9)))) := (hag9 _ (by omega)).trans h4
                have h5 : F6 (m + 5) = some (.inr (0, 8, fun b9 => .int (nI (wA b9)))) := (hag9 _ (by omega)).trans h5
                have h6 : F6 (m + 6) = some (.inr (0, 112, fun b9 => .int (nI (bA b9)))) := (hag9 _ (by omega)).trans h6
                have h7 : F6 (m + 7) = some (.inr (0, 16, fun b9 => .int (nI (dA b9)))) := (hag9 _ (by omega)).trans h7
                have h8 : F6 (m + 8) = some (.inr (0, 17, fun b9 => .int (nI (b8 b9)))) := (hag9 _ (by omega)).trans h8
                have h9 : F6 (m + 9) = some (.inr (1, 40, fun b9 => .int (nI (ln b9)))) := (hag9 _ (by omega)).trans h9
                have hi : F6 (m + 10) = some (.inr (1, 60, fun b9 => .int (nI (ip b9)))) := (hag9 _ (by omega)).trans hi
                have hcm : F6 (m + 11) = some (.inr (0, 183, fun b9 => .int (nI (cs1_1 b9)))) := (hag9 _ (by omega)).trans hcm
                have o0 : F6 (m) = some (.inl (10, [.int (nI ((thC 0 0 2 0 0))), .ref (m + 1), .int (nI ((if thC 0 0 2 0 0 = 0 then endC un else un))), .int (nI (sv)), .int ((nI (cn1_1))), .ref (m + 2), .ref (m + 3), .ref (m + 4), .ref (m + 5), .ref (m + 6), .int (nI (bm2)), .ref (m + 7), .int (nI (dm2)), .ref (m + 8), .ref (m + 9), .int (nI (lnn)), .ref (m + 10), .int (nI 0), .int (nI (h1_1)), .int ((eI (e1_1))), .int ep, .int fc, .ref (m + 11), .int (nI (cn1_1))])) := j0
                have ga : F6 (m + 1) = some (.inr (0, 4730, fun b9 => .int (nI ((if thC 0 0 2 0 0 = 0 then endG g2 un else cpyR g2 10 0) b9)))) := j1
                have hag : ∀ a9 : Nat, (a9 < m ∨ m + 12 ≤ a9) → F6 a9 = F a9 := fun a9 q0 => (hag9 a9 (by omega)).trans (hag a9 q0)
                have hg_113 := hag9
                clear hag9
                refine hret _ _ _ _ _ _ _ d_MessageCoderModel_run_116 (by decide) (by decide) rfl ?_
                have ht : thC 0 0 2 0 0 = 0 := by decide
                have hok : (prgS R.2.2.1 A R.2.2.1.1).1 = true := by rw [hBf]
                obtain ⟨hRR, hUU⟩ := run_ok (R := R) hI hg hBf hB2 hB3 ho
                have hUU : endC un = prgU R.2.2.1 A un := hUU
                have hfc : (if (prgS R.2.2.1 A R.2.2.1.1).1 = true then fc else prgV R.2.2.1 A) = fc := if_pos hok
                rw [if_pos ht] at ga
                rw [if_pos ht, ht] at o0
                have o0 : F6 (m) = some (.inl (10, [.int (nI 0), .ref (m + 1), .int (nI ((prgU R.2.2.1 A un))), .int (nI (sv)), .int (nI cn1_1), .ref (m + 2), .ref (m + 3), .ref (m + 4), .ref (m + 5), .ref (m + 6), .int (nI (bm2)), .ref (m + 7), .int (nI (dm2)), .ref (m + 8), .ref (m + 9), .int (nI (lnn)), .ref (m + 10), .int (nI 0), .int (nI (h1_1)), .int (eI (e1_1)), .int ep, .int (if (prgS R.2.2.1 A R.2.2.1.1).1 = true then fc else prgV R.2.2.1 A), .ref (m + 11), .int (nI (cn1_1))])) := by rw [← hUU, hfc]; exact o0
                have hM : (if R.1 = 1 then runO (A, S, past, (pn, psg), (lnn, lsg), sv, pp, un, ep, fc) R else runE (A, S, past, (pn, psg), (lnn, lsg), sv, pp, un, ep, fc) R) = runO (A, S, past, (pn, psg), (lnn, lsg), sv, pp, un, ep, fc) R := if_pos hr1
                have hT : (if R.1 = 1 then if (prgS R.2.2.1 A R.2.2.1.1).1 = true then 0 else 2 else 1) = 0 := (if_pos hr1).trans (if_pos hok)
                have hVv : (if R.1 = 1 then if (prgS R.2.2.1 A R.2.2.1.1).1 = true then R.2.2.2 else 0 else 0) = R.2.2.2 := (if_pos hr1).trans (if_pos hok)
                exact ⟨by rw [hVv, ht]; exact congrArg (fun q => some (Value.int (nI q))) hcnR.symm, rfl, (by show xMD _ m (if R.1 = 1 then if (prgS R.2.2.1 A R.2.2.1.1).1 = true then 0 else 2 else 1) (if R.1 = 1 then runO (A, S, past, (pn, psg), (lnn, lsg), sv, pp, un, ep, fc) R else runE (A, S, past, (pn, psg), (lnn, lsg), sv, pp, un, ep, fc) R); rw [hM, hT]; exact ⟨_, _, _, _, _, _, _, _, _, _, _, _, _, _, _, _, _, o0, ga, h2, h3, h4, h5, h6, h7, h8, h9, hi, hcm, hRR, hln, (fun j hj => absurd hj (Nat.not_lt_zero j))⟩), hag⟩
        · skip
          obtain ⟨J, f1, f2, hJ, hcc0, hcc1, hcc2, hcS, hff, hpK⟩ := run_row hty hsi (hrow i (by omega)) (show i < cn1_1 by omega) hRc
          obtain ⟨hpl, hpc⟩ := cmS_lt hcS
          have hnx9 : B.2.2.1.2.1 ≤ A.2.2.1.2.1 + psC pn ip i := by have h9 := prgS_nx R.2.2.1 A (psC pn ip i); rw [hB1] at h9; exact h9
          refine x_aload_n hC d_MessageCoderModel_run_45 rfl rfl ?_
          refine x_iconst hC d_MessageCoderModel_run_46 (v := nI 3) (by decide) ?_
          refine x_iload_n hC d_MessageCoderModel_run_47 rfl rfl ?_
          refine x_imul hC d_MessageCoderModel_run_48 (v := (nI ((3) * (i)))) (pk_mul _ _) ?_
          refine x_callV hC kv_MessageCoderModel_288 (c_MessageCoderModel_does (o0 := o0) (ga := ga) (h2 := h2) (h3 := h3) (h4 := h4) (h5 := h5) (h6 := h6) (h7 := h7) (hi := hi) (hcm := hcm) (hr := hB2) (hA := hB3) (hB := hB1) (hk9 := by omega) (hJ := hJ) (hc0 := hcc0) (hc1 := hcc1) (hc2 := hcc2) (hcS := hcS) (hf := hff) (hn := hty) (hs := hsi) (hpK := hpK) (hnx := by omega) (A := B) (A0 := A) (K := R.2.2.1) (p := psC pn ip i) (p1 := psC pn ip (i + 1)) (k := i) (n := pn) (J := J) (f1 := f1) (f2 := f2)) o0 rfl rfl (by decide) rfl rfl rfl (Nat.le_of_ble_eq_true rfl) (by decide) d_MessageCoderModel_run_49 (fun r9 F9 z9 hp9 => ?_)
          obtain ⟨g1_49, rs1_49, bm1_49, dm1_49, l1_49, v1_49, r1_49, w1_49, b1_49, d1_49, y1_49, rfl, h9c, j0, j1, j2, j3, j4, j5, j6, j7, j8, j9, pr_49, po_49, py_49, hag9⟩ := hp9
          rw [h9c]
          clear h9c z9
          generalize F9 = F7 at *
          have h8 : F7 (m + 8) = some (.inr (0, 17, fun b9 => .int (nI (b8 b9)))) := (hag9 _ (by omega)).trans h8
          have h9 : F7 (m + 9) = some (.inr (1, 40, fun b9 => .int (nI (ln b9)))) := (hag9 _ (by omega)).trans h9
          have o0 : F7 (m) = some (.inl (10, [.int (nI (th0)), .ref (m + 1), .int (nI (un)), .int (nI (sv)), .int rs1_49, .ref (m + 2), .ref (m + 3), .ref (m + 4), .ref (m + 5), .ref (m + 6), .int (nI (bm1_49)), .ref (m + 7), .int (nI (dm1_49)), .ref (m + 8), .ref (m + 9), .int (nI (lnn)), .ref (m + 10), .int (nI 0), .int (nI (h1_1)), .int ((eI (e1_1))), .int ep, .int fc, .ref (m + 11), .int (nI (cn1_1))])) := j0
          have ga : F7 (m + 1) = some (.inr (0, 4730, fun b9 => .int (nI (g1_49 b9)))) := j1
          have h2 : F7 (m + 2) = some (.inr (0, 8, fun b9 => .int (nI (l1_49 b9)))) := j2
          have h3 : F7 (m + 3) = some (.inr (0, 8, fun b9 => .int (nI (v1_49 b9)))) := j3
          have h4 : F7 (m + 4) = some (.inr (0, 8, fun b9 => .int (nI (r1_49 b9)))) := j4
          have h5 : F7 (m + 5) = some (.inr (0, 8, fun b9 => .int (nI (w1_49 b9)))) := j5
          have h6 : F7 (m + 6) = some (.inr (0, 112, fun b9 => .int (nI (b1_49 b9)))) := j6
          have h7 : F7 (m + 7) = some (.inr (0, 16, fun b9 => .int (nI (d1_49 b9)))) := j7
          have hi : F7 (m + 10) = some (.inr (1, 60, fun b9 => .int (nI (ip b9)))) := j8
          have hcm : F7 (m + 11) = some (.inr (0, 183, fun b9 => .int (nI (cs1_1 b9)))) := j9
          have hag : ∀ a9 : Nat, (a9 < m ∨ m + 12 ≤ a9) → F7 a9 = F a9 := fun a9 q0 => (hag9 a9 (by omega)).trans (hag a9 q0)
          have hg_49 := hag9
          clear hag9
          refine x_ifN_ne hC d_MessageCoderModel_run_52 (tgt := 61) (by decide) (by omega) (fun c_52 => ?_) (fun c_52 => ?_)
          · skip
            obtain ⟨jf, Bf, hj1, hj2, hBf⟩ := doR_no pr_49 (by omega)
            have hjcc := hpc jf hj1 hj2
            have ho : ∀ q, 430 ≤ q → g1_49 q = cpyR g 0 10 q := fun q hq => (po_49 q hq).trans (ho q hq)
            refine x_iload_n hC d_MessageCoderModel_run_61 rfl rfl ?_
            refine x_aload_n hC d_MessageCoderModel_run_62 rfl rfl ?_
            refine x_getf hC kf_MessageCoderModel_264 o0 rfl d_MessageCoderModel_run_63 ?_
            refine x_icmpN_ne hC d_MessageCoderModel_run_66 (tgt := 73) (by decide) (by omega) (by omega) (fun c_66 => ?_) (fun c_66 => ?_)
            · skip
              refine x_iconst hC d_MessageCoderModel_run_73 (v := nI 0) (by decide) ?_
              refine x_istore_n hC d_MessageCoderModel_run_74 rfl (Nat.le_of_ble_eq_true rfl) (L1 := [some (.ref m), some (.int (nI (i))), some (.int (nI 0))]) rfl ?_
              refine x_aload_n hC d_MessageCoderModel_run_75 rfl rfl ?_
              refine x_iload_n hC d_MessageCoderModel_run_76 rfl rfl ?_
              refine x_ifN_eq hC d_MessageCoderModel_run_77 (tgt := 87) (by decide) (by omega) (fun c_77 => ?_) (fun c_77 => ?_)
              · skip
                refine x_iload_n hC d_MessageCoderModel_run_87 rfl rfl ?_
                refine x_putf hC kf_MessageCoderModel_45 o0 (Nat.le_of_ble_eq_true rfl) rfl rfl d_MessageCoderModel_run_88 (fs1 := [.int (nI (th0)), .ref (m + 1), .int (nI (un)), .int (nI (sv)), .int rs1_49, .ref (m + 2), .ref (m + 3), .ref (m + 4), .ref (m + 5), .ref (m + 6), .int (nI (bm1_49)), .ref (m + 7), .int (nI (dm1_49)), .ref (m + 8), .ref (m + 9), .int (nI (lnn)), .ref (m + 10), .int (nI 0), .int (nI (h1_1)), .int ((eI (e1_1))), .int ep, .int (nI (i)), .ref (m + 11), .int (nI (cn1_1))]) rfl ?_
                generalize e8 : xup F7 (m) (.inl (10, [.int (nI (th0)), .ref (m + 1), .int (nI (un)), .int (nI (sv)), .int rs1_49, .ref (m + 2), .ref (m + 3), .ref (m + 4), .ref (m + 5), .ref (m + 6), .int (nI (bm1_49)), .ref (m + 7), .int (nI (dm1_49)), .ref (m + 8), .ref (m + 9), .int (nI (lnn)), .ref (m + 10), .int (nI 0), .int (nI (h1_1)), .int ((eI (e1_1))), .int ep, .int (nI (i)), .ref (m + 11), .int (nI (cn1_1))])) = F8
                have h8 : F8 (m + 8) = some (.inr (0, 17, fun b9 => .int (nI (b8 b9)))) := by rw [← e8]; exact (xup_ne (by omega)).trans h8
                have h9 : F8 (m + 9) = some (.inr (1, 40, fun b9 => .int (nI (ln b9)))) := by rw [← e8]; exact (xup_ne (by omega)).trans h9
                have o0 : F8 (m) = some (.inl (10, [.int (nI (th0)), .ref (m + 1), .int (nI (un)), .int (nI (sv)), .int rs1_49, .ref (m + 2), .ref (m + 3), .ref (m + 4), .ref (m + 5), .ref (m + 6), .int (nI (bm1_49)), .ref (m + 7), .int (nI (dm1_49)), .ref (m + 8), .ref (m + 9), .int (nI (lnn)), .ref (m + 10), .int (nI 0), .int (nI (h1_1)), .int ((eI (e1_1))), .int ep, .int (nI (i)), .ref (m + 11), .int (nI (cn1_1))])) := by rw [← e8]; exact xup_eq
                have ga : F8 (m + 1) = some (.inr (0, 4730, fun b9 => .int (nI (g1_49 b9)))) := by rw [← e8]; exact (xup_ne (by omega)).trans ga
                have h2 : F8 (m + 2) = some (.inr (0, 8, fun b9 => .int (nI (l1_49 b9)))) := by rw [← e8]; exact (xup_ne (by omega)).trans h2
                have h3 : F8 (m + 3) = some (.inr (0, 8, fun b9 => .int (nI (v1_49 b9)))) := by rw [← e8]; exact (xup_ne (by omega)).trans h3
                have h4 : F8 (m + 4) = some (.inr (0, 8, fun b9 => .int (nI (r1_49 b9)))) := by rw [← e8]; exact (xup_ne (by omega)).trans h4
                have h5 : F8 (m + 5) = some (.inr (0, 8, fun b9 => .int (nI (w1_49 b9)))) := by rw [← e8]; exact (xup_ne (by omega)).trans h5
                have h6 : F8 (m + 6) = some (.inr (0, 112, fun b9 => .int (nI (b1_49 b9)))) := by rw [← e8]; exact (xup_ne (by omega)).trans h6
                have h7 : F8 (m + 7) = some (.inr (0, 16, fun b9 => .int (nI (d1_49 b9)))) := by rw [← e8]; exact (xup_ne (by omega)).trans h7
                have hi : F8 (m + 10) = some (.inr (1, 60, fun b9 => .int (nI (ip b9)))) := by rw [← e8]; exact (xup_ne (by omega)).trans hi
                have hcm : F8 (m + 11) = some (.inr (0, 183, fun b9 => .int (nI (cs1_1 b9)))) := by rw [← e8]; exact (xup_ne (by omega)).trans hcm
                have hag : ∀ a9 : Nat, (a9 < m ∨ m + 12 ≤ a9) → F8 a9 = F a9 := fun a9 q0 => by rw [← e8]; exact (xup_ne (by omega)).trans (hag a9 q0)
                refine x_aload_n hC d_MessageCoderModel_run_91 rfl rfl ?_
                refine x_aload_n hC d_MessageCoderModel_run_92 rfl rfl ?_
                refine x_getf hC kf_MessageCoderModel_264 o0 rfl d_MessageCoderModel_run_93 ?_
                refine x_putf hC kf_MessageCoderModel_61 o0 (Nat.le_of_ble_eq_true rfl) rfl rfl d_MessageCoderModel_run_96 (fs1 := [.int (nI (th0)), .ref (m + 1), .int (nI (un)), .int (nI (sv)), .int (nI (cn1_1)), .ref (m + 2), .ref (m + 3), .ref (m + 4), .ref (m + 5), .ref (m + 6), .int (nI (bm1_49)), .ref (m + 7), .int (nI (dm1_49)), .ref (m + 8), .ref (m + 9), .int (nI (lnn)), .ref (m + 10), .int (nI 0), .int (nI (h1_1)), .int ((eI (e1_1))), .int ep, .int (nI (i)), .ref (m + 11), .int (nI (cn1_1))]) rfl ?_
                generalize e9 : xup F8 (m) (.inl (10, [.int (nI (th0)), .ref (m + 1), .int (nI (un)), .int (nI (sv)), .int (nI (cn1_1)), .ref (m + 2), .ref (m + 3), .ref (m + 4), .ref (m + 5), .ref (m + 6), .int (nI (bm1_49)), .ref (m + 7), .int (nI (dm1_49)), .ref (m + 8), .ref (m + 9), .int (nI (lnn)), .ref (m + 10), .int (nI 0), .int (nI (h1_1)), .int ((eI (e1_1))), .int ep, .int (nI (i)), .ref (m + 11), .int (nI (cn1_1))])) = F9
                have h8 : F9 (m + 8) = some (.inr (0, 17, fun b9 => .int (nI (b8 b9)))) := by rw [← e9]; exact (xup_ne (by omega)).trans h8
                have h9 : F9 (m + 9) = some (.inr (1, 40, fun b9 => .int (nI (ln b9)))) := by rw [← e9]; exact (xup_ne (by omega)).trans h9
                have o0 : F9 (m) = some (.inl (10, [.int (nI (th0)), .ref (m + 1), .int (nI (un)), .int (nI (sv)), .int (nI (cn1_1)), .ref (m + 2), .ref (m + 3), .ref (m + 4), .ref (m + 5), .ref (m + 6), .int (nI (bm1_49)), .ref (m + 7), .int (nI (dm1_49)), .ref (m + 8), .ref (m + 9), .int (nI (lnn)), .ref (m + 10), .int (nI 0), .int (nI (h1_1)), .int ((eI (e1_1))), .int ep, .int (nI (i)), .ref (m + 11), .int (nI (cn1_1))])) := by rw [← e9]; exact xup_eq
                have ga : F9 (m + 1) = some (.inr (0, 4730, fun b9 => .int (nI (g1_49 b9)))) := by rw [← e9]; exact (xup_ne (by omega)).trans ga
                have h2 : F9 (m + 2) = some (.inr (0, 8, fun b9 => .int (nI (l1_49 b9)))) := by rw [← e9]; exact (xup_ne (by omega)).trans h2
                have h3 : F9 (m + 3) = some (.inr (0, 8, fun b9 => .int (nI (v1_49 b9)))) := by rw [← e9]; exact (xup_ne (by omega)).trans h3
                have h4 : F9 (m + 4) = some (.inr (0, 8, fun b9 => .int (nI (r1_49 b9)))) := by rw [← e9]; exact (xup_ne (by omega)).trans h4
                have h5 : F9 (m + 5) = some (.inr (0, 8, fun b9 => .int (nI (w1_49 b9)))) := by rw [← e9]; exact (xup_ne (by omega)).trans h5
                have h6 : F9 (m + 6) = some (.inr (0, 112, fun b9 => .int (nI (b1_49 b9)))) := by rw [← e9]; exact (xup_ne (by omega)).trans h6
                have h7 : F9 (m + 7) = some (.inr (0, 16, fun b9 => .int (nI (d1_49 b9)))) := by rw [← e9]; exact (xup_ne (by omega)).trans h7
                have hi : F9 (m + 10) = some (.inr (1, 60, fun b9 => .int (nI (ip b9)))) := by rw [← e9]; exact (xup_ne (by omega)).trans hi
                have hcm : F9 (m + 11) = some (.inr (0, 183, fun b9 => .int (nI (cs1_1 b9)))) := by rw [← e9]; exact (xup_ne (by omega)).trans hcm
                have hag : ∀ a9 : Nat, (a9 < m ∨ m + 12 ≤ a9) → F9 a9 = F a9 := fun a9 q0 => by rw [← e9]; exact (xup_ne (by omega)).trans (hag a9 q0)
                refine x_aload_n hC d_MessageCoderModel_run_99 rfl rfl ?_
                refine x_iload_n hC d_MessageCoderModel_run_100 rfl rfl ?_
                refine x_ifN_eq hC d_MessageCoderModel_run_101 (tgt := 108) (by decide) (by omega) (fun c_101 => ?_) (fun c_101 => ?_)
                · skip
                  refine x_iconst hC d_MessageCoderModel_run_108 (v := nI 2) (by decide) ?_
                  refine x_iconst hC d_MessageCoderModel_run_109 (v := nI 0) (by decide) ?_
                  refine x_iconst hC d_MessageCoderModel_run_110 (v := nI 2) (by decide) ?_
                  refine x_iconst hC d_MessageCoderModel_run_111 (v := nI 0) (by decide) ?_
                  refine x_iconst hC d_MessageCoderModel_run_112 (v := nI 0) (by decide) ?_
                  refine x_callV hC kv_MessageCoderModel_128 (c_MessageCoderModel_ends (o0 := o0) (ga := ga) (hy := by omega) (h1 := by omega) (h2 := by omega) (h3 := by omega) (h4 := by omega) (hch := by omega)) o0 rfl rfl (by decide) rfl rfl rfl (Nat.le_of_ble_eq_true rfl) (by decide) d_MessageCoderModel_run_113 (fun r9 F9 z9 hp9 => ?_)
                  obtain ⟨rfl, h9c, j0, j1, hag9⟩ := hp9
                  rw [h9c]
                  clear h9c z9
                  generalize F9 = F10 at *
                  have h8 : F10 (m + 8) = some (.inr (0, 17, fun b9 => .int (nI (b8 b9)))) := (hag9 _ (by omega)).trans h8
                  have h9 : F10 (m + 9) = some (.inr (1, 40, fun b9 => .int (nI (ln b9)))) := (hag9 _ (by omega)).trans h9
                  have h2 : F10 (m + 2) = some (.inr (0, 8, fun b9 => .int (nI (l1_49 b9)))) := (hag9 _ (by omega)).trans h2
                  have h3 : F10 (m + 3) = some (.inr (0, 8, fun b9 => .int (nI (v1_49 b9)))) := (hag9 _ (by omega)).trans h3
                  have h4 : F10 (m + 4) = some (.inr (0, 8, fun b9 => .int (nI (r1_49 b9)))) := (hag9 _ (by omega)).trans h4
                  have h5 : F10 (m + 5) = some (.inr (0, 8, fun b9 => .int (nI (w1_49 b9)))) := (hag9 _ (by omega)).trans h5
                  have h6 : F10 (m + 6) = some (.inr (0, 112, fun b9 => .int (nI (b1_49 b9)))) := (hag9 _ (by omega)).trans h6
                  have h7 : F10 (m + 7) = some (.inr (0, 16, fun b9 => .int (nI (d1_49 b9)))) := (hag9 _ (by omega)).trans h7
                  have hi : F10 (m + 10) = some (.inr (1, 60, fun b9 => .int (nI (ip b9)))) := (hag9 _ (by omega)).trans hi
                  have hcm : F10 (m + 11) = some (.inr (0, 183, fun b9 => .int (nI (cs1_1 b9)))) := (hag9 _ (by omega)).trans hcm
                  have o0 : F10 (m) = some (.inl (10, [.int (nI ((thC 2 0 2 0 0))), .ref (m + 1), .int (nI ((if thC 2 0 2 0 0 = 0 then endC un else un))), .int (nI (sv)), .int ((nI (cn1_1))), .ref (m + 2), .ref (m + 3), .ref (m + 4), .ref (m + 5), .ref (m + 6), .int (nI (bm1_49)), .ref (m + 7), .int (nI (dm1_49)), .ref (m + 8), .ref (m + 9), .int (nI (lnn)), .ref (m + 10), .int (nI 0), .int (nI (h1_1)), .int ((eI (e1_1))), .int ep, .int ((nI (i))), .ref (m + 11), .int (nI (cn1_1))])) := j0
                  have ga : F10 (m + 1) = some (.inr (0, 4730, fun b9 => .int (nI ((if thC 2 0 2 0 0 = 0 then endG g1_49 un else cpyR g1_49 10 0) b9)))) := j1
                  have hag : ∀ a9 : Nat, (a9 < m ∨ m + 12 ≤ a9) → F10 a9 = F a9 := fun a9 q0 => (hag9 a9 (by omega)).trans (hag a9 q0)
                  have hg_113 := hag9
                  clear hag9
                  refine hret _ _ _ _ _ _ _ d_MessageCoderModel_run_116 (by decide) (by decide) rfl ?_
                  have ht : thC 2 0 2 0 0 = 2 := by decide
                  have hno : (prgS R.2.2.1 A R.2.2.1.1).1 = false := by rw [hBf]
                  have hok : ¬ (prgS R.2.2.1 A R.2.2.1.1).1 = true := fun e => by rw [hno] at e; cases e
                  obtain ⟨hRR, hUU⟩ := run_no (R := R) hI hg hno ho
                  have hUU : un = prgU R.2.2.1 A un := hUU
                  have hfc : (if (prgS R.2.2.1 A R.2.2.1.1).1 = true then fc else prgV R.2.2.1 A) = nI i := (if_neg hok).trans ((if_neg hok).trans (congrArg nI (by rw [hBf]; exact hjcc)))
                  rw [if_neg (by rw [ht]; decide)] at ga
                  rw [if_neg (by rw [ht]; decide), ht] at o0
                  have o0 : F10 (m) = some (.inl (10, [.int (nI 2), .ref (m + 1), .int (nI ((prgU R.2.2.1 A un))), .int (nI (sv)), .int (nI cn1_1), .ref (m + 2), .ref (m + 3), .ref (m + 4), .ref (m + 5), .ref (m + 6), .int (nI (bm1_49)), .ref (m + 7), .int (nI (dm1_49)), .ref (m + 8), .ref (m + 9), .int (nI (lnn)), .ref (m + 10), .int (nI 0), .int (nI (h1_1)), .int (eI (e1_1)), .int ep, .int (if (prgS R.2.2.1 A R.2.2.1.1).1 = true then fc else prgV R.2.2.1 A), .ref (m + 11), .int (nI (cn1_1))])) := by rw [← hUU, hfc]; exact o0
                  have hM : (if R.1 = 1 then runO (A, S, past, (pn, psg), (lnn, lsg), sv, pp, un, ep, fc) R else runE (A, S, past, (pn, psg), (lnn, lsg), sv, pp, un, ep, fc) R) = runO (A, S, past, (pn, psg), (lnn, lsg), sv, pp, un, ep, fc) R := if_pos hr1
                  have hT : (if R.1 = 1 then if (prgS R.2.2.1 A R.2.2.1.1).1 = true then 0 else 2 else 1) = 2 := (if_pos hr1).trans (if_neg hok)
                  have hVv : (if R.1 = 1 then if (prgS R.2.2.1 A R.2.2.1.1).1 = true then R.2.2.2 else 0 else 0) = 0 := (if_pos hr1).trans (if_neg hok)
                  exact ⟨by rw [hVv, ht]; exact congrArg (fun q => some (Value.int (nI q))) rfl, rfl, (by show xMD _ m (if R.1 = 1 then if (prgS R.2.2.1 A R.2.2.1.1).1 = true then 0 else 2 else 1) (if R.1 = 1 then runO (A, S, past, (pn, psg), (lnn, lsg), sv, pp, un, ep, fc) R else runE (A, S, past, (pn, psg), (lnn, lsg), sv, pp, un, ep, fc) R); rw [hM, hT]; exact ⟨_, _, _, _, _, _, _, _, _, _, _, _, _, _, _, _, _, o0, ga, h2, h3, h4, h5, h6, h7, h8, h9, hi, hcm, hRR, hln, (fun j hj => absurd hj (Nat.not_lt_zero j))⟩), hag⟩
                · skip
                  exact absurd c_101 (by omega)
              · skip
                exact absurd c_77 (by omega)
            · skip
              exact absurd c_66 (by omega)
          · skip
            obtain ⟨B9, hB91, hB92, hB93⟩ := doR_0 pr_49 (by omega)
            have ho : ∀ q, 430 ≤ q → g1_49 q = cpyR g 0 10 q := fun q hq => (po_49 q hq).trans (ho q hq)
            refine x_iinc hC d_MessageCoderModel_run_55 rfl (v := (nI (i + 1))) (x_incN 1) (Nat.le_of_ble_eq_true rfl) (L1 := [some (.ref m), some (.int (nI (i + 1))), none]) rfl ?_
            refine x_goto hC d_MessageCoderModel_run_58 (tgt := 37) (by decide) ?_
            exact ih_37 F7 (i + 1) (B9) (g1_49) (rs1_49) (bm1_49) (dm1_49) (l1_49) (v1_49) (r1_49) (w1_49) (b1_49) (d1_49) o0 ga h2 h3 h4 h5 h6 h7 h8 h9 hi hcm hag (by omega) (hB91) (hB92) (hB93) (ho) (by omega)
    exact loop_37 (cn1_1 - 0 + 1) F3 (0) (A) ((cpyR g 0 10)) (rs) (bm) (dm) (l2) (v3) (r4) (w5) (b6) (d7) o0 ga h2 h3 h4 h5 h6 h7 h8 h9 hi hcm hag (by omega) (rfl) (rRow_ext iA (fun q hq => cpyR_out (by omega)) hr) (iA) (fun _ _ => rfl) (by omega)
  · skip
    have he1 : e1_1 ≠ 0 := fun h9 => by rw [h9] at c_13; exact absurd c_13 (by decide)
    obtain ⟨hr2, hr3⟩ := hp1 he1
    have hr1 : ¬ R.1 = 1 := by rw [hr2]; decide
    have hee : eI e1_1 = nI R.2.1 := by rw [← hr3]; exact eI_s _
    refine x_aload_n hC d_MessageCoderModel_run_16 rfl rfl ?_
    refine x_aload_n hC d_MessageCoderModel_run_17 rfl rfl ?_
    refine x_getf hC kf_MessageCoderModel_242 o0 rfl d_MessageCoderModel_run_18 ?_
    refine x_putf hC kf_MessageCoderModel_41 o0 (Nat.le_of_ble_eq_true rfl) rfl rfl d_MessageCoderModel_run_21 (fs1 := [.int (nI (th0)), .ref (m + 1), .int (nI (un)), .int (nI (sv)), .int rs, .ref (m + 2), .ref (m + 3), .ref (m + 4), .ref (m + 5), .ref (m + 6), .int (nI (bm)), .ref (m + 7), .int (nI (dm)), .ref (m + 8), .ref (m + 9), .int (nI (lnn)), .ref (m + 10), .int (nI 0), .int (nI (h1_1)), .int (eI (e1_1)), .int (eI (e1_1)), .int fc, .ref (m + 11), .int (nI (cn1_1))]) rfl ?_
    generalize e11 : xup F2 (m) (.inl (10, [.int (nI (th0)), .ref (m + 1), .int (nI (un)), .int (nI (sv)), .int rs, .ref (m + 2), .ref (m + 3), .ref (m + 4), .ref (m + 5), .ref (m + 6), .int (nI (bm)), .ref (m + 7), .int (nI (dm)), .ref (m + 8), .ref (m + 9), .int (nI (lnn)), .ref (m + 10), .int (nI 0), .int (nI (h1_1)), .int (eI (e1_1)), .int (eI (e1_1)), .int fc, .ref (m + 11), .int (nI (cn1_1))])) = F11
    have ga : F11 (m + 1) = some (.inr (0, 4730, fun b9 => .int (nI (g b9)))) := by rw [← e11]; exact (xup_ne (by omega)).trans ga
    have h2 : F11 (m + 2) = some (.inr (0, 8, fun b9 => .int (nI (l2 b9)))) := by rw [← e11]; exact (xup_ne (by omega)).trans h2
    have h3 : F11 (m + 3) = some (.inr (0, 8, fun b9 => .int (nI (v3 b9)))) := by rw [← e11]; exact (xup_ne (by omega)).trans h3
    have h4 : F11 (m + 4) = some (.inr (0, 8, fun b9 => .int (nI (r4 b9)))) := by rw [← e11]; exact (xup_ne (by omega)).trans h4
    have h5 : F11 (m + 5) = some (.inr (0, 8, fun b9 => .int (nI (w5 b9)))) := by rw [← e11]; exact (xup_ne (by omega)).trans h5
    have h6 : F11 (m + 6) = some (.inr (0, 112, fun b9 => .int (nI (b6 b9)))) := by rw [← e11]; exact (xup_ne (by omega)).trans h6
    have h7 : F11 (m + 7) = some (.inr (0, 16, fun b9 => .int (nI (d7 b9)))) := by rw [← e11]; exact (xup_ne (by omega)).trans h7
    have h8 : F11 (m + 8) = some (.inr (0, 17, fun b9 => .int (nI (b8 b9)))) := by rw [← e11]; exact (xup_ne (by omega)).trans h8
    have h9 : F11 (m + 9) = some (.inr (1, 40, fun b9 => .int (nI (ln b9)))) := by rw [← e11]; exact (xup_ne (by omega)).trans h9
    have o0 : F11 (m) = some (.inl (10, [.int (nI (th0)), .ref (m + 1), .int (nI (un)), .int (nI (sv)), .int rs, .ref (m + 2), .ref (m + 3), .ref (m + 4), .ref (m + 5), .ref (m + 6), .int (nI (bm)), .ref (m + 7), .int (nI (dm)), .ref (m + 8), .ref (m + 9), .int (nI (lnn)), .ref (m + 10), .int (nI 0), .int (nI (h1_1)), .int (eI (e1_1)), .int (eI (e1_1)), .int fc, .ref (m + 11), .int (nI (cn1_1))])) := by rw [← e11]; exact xup_eq
    have hi : F11 (m + 10) = some (.inr (1, 60, fun b9 => .int (nI (ip b9)))) := by rw [← e11]; exact (xup_ne (by omega)).trans hi
    have hcm : F11 (m + 11) = some (.inr (0, 183, fun b9 => .int (nI (cs1_1 b9)))) := by rw [← e11]; exact (xup_ne (by omega)).trans hcm
    have hag : ∀ a9 : Nat, (a9 < m ∨ m + 12 ≤ a9) → F11 a9 = F a9 := fun a9 q0 => by rw [← e11]; exact (xup_ne (by omega)).trans (hag a9 q0)
    refine x_aload_n hC d_MessageCoderModel_run_24 rfl rfl ?_
    refine x_iconst hC d_MessageCoderModel_run_25 (v := nI 1) (by decide) ?_
    refine x_putf hC kf_MessageCoderModel_51 o0 (Nat.le_of_ble_eq_true rfl) rfl rfl d_MessageCoderModel_run_26 (fs1 := [.int (nI 1), .ref (m + 1), .int (nI (un)), .int (nI (sv)), .int rs, .ref (m + 2), .ref (m + 3), .ref (m + 4), .ref (m + 5), .ref (m + 6), .int (nI (bm)), .ref (m + 7), .int (nI (dm)), .ref (m + 8), .ref (m + 9), .int (nI (lnn)), .ref (m + 10), .int (nI 0), .int (nI (h1_1)), .int (eI (e1_1)), .int (eI (e1_1)), .int fc, .ref (m + 11), .int (nI (cn1_1))]) rfl ?_
    generalize e12 : xup F11 (m) (.inl (10, [.int (nI 1), .ref (m + 1), .int (nI (un)), .int (nI (sv)), .int rs, .ref (m + 2), .ref (m + 3), .ref (m + 4), .ref (m + 5), .ref (m + 6), .int (nI (bm)), .ref (m + 7), .int (nI (dm)), .ref (m + 8), .ref (m + 9), .int (nI (lnn)), .ref (m + 10), .int (nI 0), .int (nI (h1_1)), .int (eI (e1_1)), .int (eI (e1_1)), .int fc, .ref (m + 11), .int (nI (cn1_1))])) = F12
    have ga : F12 (m + 1) = some (.inr (0, 4730, fun b9 => .int (nI (g b9)))) := by rw [← e12]; exact (xup_ne (by omega)).trans ga
    have h2 : F12 (m + 2) = some (.inr (0, 8, fun b9 => .int (nI (l2 b9)))) := by rw [← e12]; exact (xup_ne (by omega)).trans h2
    have h3 : F12 (m + 3) = some (.inr (0, 8, fun b9 => .int (nI (v3 b9)))) := by rw [← e12]; exact (xup_ne (by omega)).trans h3
    have h4 : F12 (m + 4) = some (.inr (0, 8, fun b9 => .int (nI (r4 b9)))) := by rw [← e12]; exact (xup_ne (by omega)).trans h4
    have h5 : F12 (m + 5) = some (.inr (0, 8, fun b9 => .int (nI (w5 b9)))) := by rw [← e12]; exact (xup_ne (by omega)).trans h5
    have h6 : F12 (m + 6) = some (.inr (0, 112, fun b9 => .int (nI (b6 b9)))) := by rw [← e12]; exact (xup_ne (by omega)).trans h6
    have h7 : F12 (m + 7) = some (.inr (0, 16, fun b9 => .int (nI (d7 b9)))) := by rw [← e12]; exact (xup_ne (by omega)).trans h7
    have h8 : F12 (m + 8) = some (.inr (0, 17, fun b9 => .int (nI (b8 b9)))) := by rw [← e12]; exact (xup_ne (by omega)).trans h8
    have h9 : F12 (m + 9) = some (.inr (1, 40, fun b9 => .int (nI (ln b9)))) := by rw [← e12]; exact (xup_ne (by omega)).trans h9
    have o0 : F12 (m) = some (.inl (10, [.int (nI 1), .ref (m + 1), .int (nI (un)), .int (nI (sv)), .int rs, .ref (m + 2), .ref (m + 3), .ref (m + 4), .ref (m + 5), .ref (m + 6), .int (nI (bm)), .ref (m + 7), .int (nI (dm)), .ref (m + 8), .ref (m + 9), .int (nI (lnn)), .ref (m + 10), .int (nI 0), .int (nI (h1_1)), .int (eI (e1_1)), .int (eI (e1_1)), .int fc, .ref (m + 11), .int (nI (cn1_1))])) := by rw [← e12]; exact xup_eq
    have hi : F12 (m + 10) = some (.inr (1, 60, fun b9 => .int (nI (ip b9)))) := by rw [← e12]; exact (xup_ne (by omega)).trans hi
    have hcm : F12 (m + 11) = some (.inr (0, 183, fun b9 => .int (nI (cs1_1 b9)))) := by rw [← e12]; exact (xup_ne (by omega)).trans hcm
    have hag : ∀ a9 : Nat, (a9 < m ∨ m + 12 ≤ a9) → F12 a9 = F a9 := fun a9 q0 => by rw [← e12]; exact (xup_ne (by omega)).trans (hag a9 q0)
    refine x_iconst hC d_MessageCoderModel_run_29 (v := nI 0) (by decide) ?_
    refine hret _ _ _ _ _ _ _ d_MessageCoderModel_run_30 (by decide) (by decide) rfl ?_
    have o0 : F12 (m) = some (.inl (10, [.int (nI 1), .ref (m + 1), .int (nI (un)), .int (nI (sv)), .int rs, .ref (m + 2), .ref (m + 3), .ref (m + 4), .ref (m + 5), .ref (m + 6), .int (nI (bm)), .ref (m + 7), .int (nI (dm)), .ref (m + 8), .ref (m + 9), .int (nI (lnn)), .ref (m + 10), .int (nI 0), .int (nI (h1_1)), .int (eI (e1_1)), .int (nI R.2.1), .int fc, .ref (m + 11), .int (nI (cn1_1))])) := by rw [← hee]; exact o0
    have hM : (if R.1 = 1 then runO (A, S, past, (pn, psg), (lnn, lsg), sv, pp, un, ep, fc) R else runE (A, S, past, (pn, psg), (lnn, lsg), sv, pp, un, ep, fc) R) = runE (A, S, past, (pn, psg), (lnn, lsg), sv, pp, un, ep, fc) R := if_neg hr1
    have hT : (if R.1 = 1 then if (prgS R.2.2.1 A R.2.2.1.1).1 = true then 0 else 2 else 1) = 1 := if_neg hr1
    have hVv : (if R.1 = 1 then if (prgS R.2.2.1 A R.2.2.1.1).1 = true then R.2.2.2 else 0 else 0) = 0 := if_neg hr1
    exact ⟨congrArg (fun q => some (Value.int (nI q))) (hVv.symm), rfl, (by show xMD _ m (if R.1 = 1 then if (prgS R.2.2.1 A R.2.2.1.1).1 = true then 0 else 2 else 1) (if R.1 = 1 then runO (A, S, past, (pn, psg), (lnn, lsg), sv, pp, un, ep, fc) R else runE (A, S, past, (pn, psg), (lnn, lsg), sv, pp, un, ep, fc) R); rw [hM, hT]; exact ⟨_, _, _, _, _, _, _, _, _, _, _, _, _, _, _, _, _, o0, ga, h2, h3, h4, h5, h6, h7, h8, h9, hi, hcm, hg, hln, (fun j hj => absurd hj (Nat.not_lt_zero j))⟩), hag⟩

