/-! the reference: a whole program, read -/
theorem pc_true {n : Nat} {s : Nat → Nat} {a : Nat} : ∀ k, (pCmd n s a k).1 < k → (pTry n s a (pCmd n s a k).1).1 = true
  | 0, h => absurd h (Nat.not_lt_zero _)
  | k + 1, h => by
    have e : pCmd n s a (k + 1) = (if (pCmd n s a k).1 < k then pCmd n s a k else if (pTry n s a k).1 = true then (k, (pCmd n s a k).2) else (k + 1, if (pCmd n s a k).2 < (pTry n s a k).2.1 then (pTry n s a k).2.1 else (pCmd n s a k).2)) := rfl
    rw [e] at h ⊢
    by_cases c : (pCmd n s a k).1 < k
    · rw [if_pos c] at h ⊢
      exact pc_true k c
    · rw [if_neg c] at h ⊢
      by_cases d : (pTry n s a k).1 = true
      · rw [if_pos d]
        exact d
      · rw [if_neg d] at h
        exact absurd h (Nat.lt_irrefl _)
theorem tr_up {n : Nat} {s : Nat → Nat} {a j : Nat} (hj : j < 10) (h : (pTry n s a j).1 = true) : (a < n ∧ s a = frm j 0) ∧ a + 1 ≤ (pTry n s a j).2.1 := by
  have h0 : a < n ∧ s a = frm j 0 := Decidable.not_not.mp (fun q => (tr_no hj q).1 h)
  refine ⟨h0, ?_⟩
  obtain ⟨f1, f2, f3⟩ := frm_1 j hj
  have e1 : pForm n s (frm j) a 1 = (true, a + 1, 0, 0, 0) := (fo_go (k := 0) rfl).trans ((pa_sign f1).trans (if_pos ((sgN_c f2).mpr h0)))
  have h2 := fo_gj (n := n) (s := s) (g := frm j) (a := a) (k := 1) (fln j - 1)
  rw [show 1 + (fln j - 1) = fln j by omega, e1] at h2
  exact h2
theorem df_ok {n : Nat} {s : Nat → Nat} {q : Nat × Nat} (h : (dfQ n s q).2 = 0) : (dfP n s q).1 < (dfQ n s q).1 := by
  unfold dfQ at h ⊢
  by_cases c : (dfP n s q).2 = 0
  · rw [if_pos c] at h ⊢
    by_cases d : (dfP n s q).1 < pEnd n s (dfP n s q).1 n
    · rw [if_pos d]
      exact d
    · rw [if_neg d] at h
      exact absurd h (Nat.succ_ne_zero _)
  · rw [if_neg c] at h
    exact absurd h c
theorem dfP_ge {n : Nat} {s : Nat → Nat} {q : Nat × Nat} : q.1 ≤ (dfP n s q).1 := Nat.le_trans nd_ge (Nat.le_trans nd_ge (Nat.le_trans nd_ge nd_ge))
theorem tr_draft {n : Nat} {s : Nat → Nat} {a : Nat} (h : (pTry n s a 1).1 = true) : a + 1 ≤ (pTry n s a 1).2.2.1 ∧ (pTry n s a 1).2.2.1 < (pTry n s a 1).2.2.2.1 ∧ (pTry n s a 1).2.2.2.1 = (pTry n s a 1).2.1 := by
  have h0 : a < n ∧ s a = 100 := (tr_up (by omega) h).1
  obtain ⟨t1, t2⟩ := tr_1 h0
  obtain ⟨u1, u2⟩ := t2 h
  have e0 : (dfQ n s (nd n s 114 (a + 1, 0))).2 = 0 := by
    rw [← t1]
    exact Qs_0.mpr h
  have e1 : (dfQ n s (nd n s 114 (a + 1, 0))).1 = (pTry n s a 1).2.1 := by
    rw [← t1]
    exact Qs_1 _
  have e2 := df_ok e0
  rw [e1, ← u1] at e2
  refine ⟨?_, by rw [u2]; exact e2, u2⟩
  rw [u1]
  exact Nat.le_trans (nd_ge (q := (a + 1, 0))) dfP_ge
/-- steps that go on with steps -/
def KE (K L : kS) : Prop := K.1 ≤ L.1 ∧ ∀ j, j < K.1 → L.2.1 j = K.2.1 j ∧ L.2.2.1 j = K.2.2.1 j ∧ L.2.2.2.1 j = K.2.2.2.1 j ∧ L.2.2.2.2 j = K.2.2.2.2 j
theorem KE_r (K : kS) : KE K K := ⟨Nat.le_refl _, fun _ _ => ⟨rfl, rfl, rfl, rfl⟩⟩
theorem KE_t {K L N : kS} (h1 : KE K L) (h2 : KE L N) : KE K N := ⟨Nat.le_trans h1.1 h2.1, fun j hj => by
  obtain ⟨a1, a2, a3, a4⟩ := h1.2 j hj
  obtain ⟨b1, b2, b3, b4⟩ := h2.2 j (Nat.lt_of_lt_of_le hj h1.1)
  exact ⟨b1.trans a1, b2.trans a2, b3.trans a3, b4.trans a4⟩⟩
theorem KE_step (q : kS) (c one two cc : Nat) : KE q (kStep q c one two cc) := by
  unfold kStep
  by_cases h : q.1 < 60
  · rw [if_pos h]
    exact ⟨Nat.le_succ _, fun j hj => ⟨updN_ne (by omega), updN_ne (by omega), updN_ne (by omega), updN_ne (by omega)⟩⟩
  · rw [if_neg h]
    exact KE_r q
theorem KE_draft {n : Nat} {s : Nat → Nat} {q : kS} {cc b : Nat} : ∀ k, KE q (kDraft n s q cc b k)
  | 0 => KE_r q
  | k + 1 => KE_t (KE_draft k) (KE_step _ _ _ _ _)
theorem KE_cmd (n : Nat) (s : Nat → Nat) (q : kS) (c f1 f2 cc : Nat) : KE q (kCmd n s q c f1 f2 cc) := by
  unfold kCmd
  split
  · exact KE_draft _
  · exact KE_step _ _ _ _ _
theorem KE_rdN {n : Nat} {s : Nat → Nat} {q : rS} : KE q.2.2.1 (rdN n s q).2.2.1 := by
  have hx : KE q.2.2.1 (rdK n s q.2.2.1 q.2.1 q.2.2.2) := by
    unfold rdK
    exact KE_cmd _ _ _ _ _ _ _
  unfold rdN
  generalize rdK n s q.2.2.1 q.2.1 q.2.2.2 = L at *
  generalize rdA n s q.2.1 = u
  generalize pCmd n s q.2.1 10 = C
  by_cases c0 : q.1 = 0
  · rw [if_pos c0]
    by_cases c1 : C.1 < 10
    · rw [if_pos c1]
      by_cases c2 : n ≤ u
      · rw [if_pos c2]
        exact hx
      · rw [if_neg c2]
        by_cases c3 : sgN n s u = 59
        · rw [if_pos c3]
          exact hx
        · rw [if_neg c3]
          exact hx
    · rw [if_neg c1]
      exact KE_r _
  · rw [if_neg c0]
    exact KE_r _
theorem KE_rd {n : Nat} {s : Nat → Nat} {k : Nat} : ∀ j, KE (rdS n s k).2.2.1 (rdS n s (k + j)).2.2.1
  | 0 => KE_r _
  | j + 1 => KE_t (KE_rd j) KE_rdN
theorem kStep_io {q : kS} {c one two cc : Nat} (h : q.1 < 60) : (kStep q c one two cc).1 = q.1 + 1 ∧ (kStep q c one two cc).2.1 q.1 = c ∧ (kStep q c one two cc).2.2.1 q.1 = one ∧ (kStep q c one two cc).2.2.2.1 q.1 = two ∧ (kStep q c one two cc).2.2.2.2 q.1 = cc := by
  unfold kStep
  rw [if_pos h]
  exact ⟨rfl, updN_eq, updN_eq, updN_eq, updN_eq⟩
theorem kDraft_io {n : Nat} {s : Nat → Nat} {q : kS} {cc b : Nat} : ∀ k, q.1 + k ≤ 60 → (kDraft n s q cc b k).1 = q.1 + k ∧ ∀ t, t < k → (kDraft n s q cc b k).2.1 (q.1 + t) = 1 ∧ (kDraft n s q cc b k).2.2.1 (q.1 + t) = sgN n s (b + t) ∧ (kDraft n s q cc b k).2.2.2.1 (q.1 + t) = 0 ∧ (kDraft n s q cc b k).2.2.2.2 (q.1 + t) = cc
  | 0, _ => ⟨rfl, fun t ht => absurd ht (Nat.not_lt_zero t)⟩
  | k + 1, h => by
    obtain ⟨e1, e2⟩ := kDraft_io (n := n) (s := s) (q := q) (cc := cc) (b := b) k (by omega)
    have h1 := kStep_io (q := kDraft n s q cc b k) (c := 1) (one := sgN n s (b + k)) (two := 0) (cc := cc) (by omega)
    have h2 := KE_step (kDraft n s q cc b k) 1 (sgN n s (b + k)) 0 cc
    show (kStep (kDraft n s q cc b k) 1 (sgN n s (b + k)) 0 cc).1 = _ ∧ ∀ t, t < k + 1 → (kStep (kDraft n s q cc b k) 1 (sgN n s (b + k)) 0 cc).2.1 (q.1 + t) = 1 ∧ (kStep (kDraft n s q cc b k) 1 (sgN n s (b + k)) 0 cc).2.2.1 (q.1 + t) = sgN n s (b + t) ∧ (kStep (kDraft n s q cc b k) 1 (sgN n s (b + k)) 0 cc).2.2.2.1 (q.1 + t) = 0 ∧ (kStep (kDraft n s q cc b k) 1 (sgN n s (b + k)) 0 cc).2.2.2.2 (q.1 + t) = cc
    generalize kStep (kDraft n s q cc b k) 1 (sgN n s (b + k)) 0 cc = L at *
    generalize kDraft n s q cc b k = K at *
    refine ⟨by rw [h1.1, e1]; omega, fun t ht => ?_⟩
    by_cases e : t = k
    · rw [e, ← e1]
      exact h1.2
    · obtain ⟨a1, a2, a3, a4⟩ := e2 t (by omega)
      obtain ⟨b1, b2, b3, b4⟩ := h2.2 (q.1 + t) (by omega)
      exact ⟨b1.trans a1, b2.trans a2, b3.trans a3, b4.trans a4⟩
def kBd (K : kS) : Prop := ∀ j, j < K.1 → K.2.1 j < 10 ∧ K.2.2.1 j < 65536 ∧ K.2.2.2.1 j < 65536 ∧ K.2.2.2.2 j ≤ 60
/-- a command's steps -/
def cmS (K : kS) (s : Nat → Nat) (n p p1 J f1 f2 cc : Nat) : Prop := (J ≠ 1 → p1 = p + 1 ∧ K.2.1 p = J ∧ K.2.2.1 p = f1 ∧ K.2.2.2.1 p = f2 ∧ K.2.2.2.2 p = cc) ∧ (J = 1 → f1 < f2 ∧ f2 ≤ n ∧ p1 = p + (f2 - f1) ∧ ∀ t, t < f2 - f1 → K.2.1 (p + t) = 1 ∧ K.2.2.1 (p + t) = s (f1 + t) ∧ K.2.2.2.2 (p + t) = cc)
theorem cmS_x {K L : kS} {s : Nat → Nat} {n p p1 J f1 f2 cc : Nat} (h : cmS K s n p p1 J f1 f2 cc) (hp : p1 ≤ K.1) (hK : KE K L) : cmS L s n p p1 J f1 f2 cc := by
  refine ⟨fun hJ => ?_, fun hJ => ?_⟩
  · obtain ⟨h1, h2, h3, h4, h5⟩ := h.1 hJ
    obtain ⟨b1, b2, b3, b4⟩ := hK.2 p (by omega)
    exact ⟨h1, b1.trans h2, b2.trans h3, b3.trans h4, b4.trans h5⟩
  · obtain ⟨h1, h2, h3, h4⟩ := h.2 hJ
    refine ⟨h1, h2, h3, fun t ht => ?_⟩
    obtain ⟨a1, a2, a3⟩ := h4 t ht
    obtain ⟨b1, b2, b3, b4⟩ := hK.2 (p + t) (by omega)
    exact ⟨b1.trans a1, b2.trans a2, b4.trans a3⟩
theorem cmd_K {n : Nat} {s : Nat → Nat} {a : Nat} {K : kS} {cc J : Nat} {T : Bool × pS} (hn : n ≤ 60) (hs : ∀ j, j < n → s j < 65536) (ha : a ≤ n) (hK : K.1 ≤ a) (hb : kBd K) (hcc : cc ≤ 60) (hJ : (pCmd n s a 10).1 = J) (hJ10 : J < 10) (hT : pTry n s a J = T) : a + 1 ≤ T.2.1 ∧ T.2.1 ≤ n ∧ rdA n s a = T.2.1 ∧ ∃ L : kS, rdK n s K a cc = L ∧ L.1 ≤ T.2.1 ∧ kBd L ∧ cmS L s n K.1 L.1 J T.2.2.1 T.2.2.2.1 cc ∧ T.2.2.1 ≤ 1000 ∧ T.2.2.2.1 ≤ 1000 := by
  have hA : rdA n s a = T.2.1 := by
    unfold rdA
    rw [hJ, hT]
  have hL : rdK n s K a cc = kCmd n s K J T.2.2.1 T.2.2.2.1 cc := by
    unfold rdK
    rw [hJ, hT]
  have h1 : T.1 = true := by
    have h9 := pc_true (n := n) (s := s) (a := a) 10 (by rw [hJ]; exact hJ10)
    rw [hJ, hT] at h9
    exact h9
  have h2 := (tr_up hJ10 (by rw [hT]; exact h1)).2
  rw [hT] at h2
  have h3 := pTry_B (s := s) (c := J) hn ha hJ10
  rw [hT] at h3
  obtain ⟨b1, b2, b3, b4⟩ := h3
  have hx := KE_cmd n s K J T.2.2.1 T.2.2.2.1 cc
  refine ⟨h2, b1, hA, _, hL, ?_⟩
  by_cases c : J = 1
  · have hd := tr_draft (n := n) (s := s) (a := a) (by rw [← c, hT]; exact h1)
    rw [← c, hT] at hd
    obtain ⟨d1, d2, d3⟩ := hd
    have e1 : kCmd n s K J T.2.2.1 T.2.2.2.1 cc = kDraft n s K cc T.2.2.1 (T.2.2.2.1 - T.2.2.1) := if_pos c
    rw [e1] at hx ⊢
    generalize T.2.2.2.1 = f2 at *
    generalize T.2.2.1 = f1 at *
    generalize T.2.1 = u at *
    obtain ⟨e2, e3⟩ := kDraft_io (n := n) (s := s) (q := K) (cc := cc) (b := f1) (f2 - f1) (by omega)
    generalize kDraft n s K cc f1 (f2 - f1) = L at *
    refine ⟨by omega, fun j hj => ?_, ⟨fun q => absurd c q, fun _ => ⟨d2, by omega, e2, fun t ht => ?_⟩⟩, b2, b3⟩
    · by_cases q : j < K.1
      · obtain ⟨v1, v2, v3, v4⟩ := hx.2 j q
        rw [v1, v2, v3, v4]
        exact hb j q
      · obtain ⟨v1, v2, v3, v4⟩ := e3 (j - K.1) (by omega)
        rw [show K.1 + (j - K.1) = j by omega] at v1 v2 v3 v4
        rw [v1, v2, v3, v4]
        exact ⟨by omega, sgN_lt hs _, by omega, hcc⟩
    · obtain ⟨v1, v2, v3, v4⟩ := e3 t ht
      exact ⟨v1, v2.trans (if_pos (by omega)), v4⟩
  · have e1 : kCmd n s K J T.2.2.1 T.2.2.2.1 cc = kStep K J T.2.2.1 T.2.2.2.1 cc := if_neg c
    rw [e1] at hx ⊢
    generalize T.2.2.2.1 = f2 at *
    generalize T.2.2.1 = f1 at *
    generalize T.2.1 = u at *
    obtain ⟨e2, e3, e4, e5, e6⟩ := kStep_io (q := K) (c := J) (one := f1) (two := f2) (cc := cc) (by omega)
    generalize kStep K J f1 f2 cc = L at *
    refine ⟨by omega, fun j hj => ?_, ⟨fun _ => ⟨e2, e3, e4, e5, e6⟩, fun q => absurd q c⟩, b2, b3⟩
    by_cases q : j < K.1
    · obtain ⟨v1, v2, v3, v4⟩ := hx.2 j q
      rw [v1, v2, v3, v4]
      exact hb j q
    · rw [show j = K.1 by omega, e3, e4, e5, e6]
      exact ⟨hJ10, by omega, by omega, hcc⟩
theorem rdN_c {n : Nat} {s : Nat → Nat} {q : rS} {u : Nat} {L : kS} (h0 : q.1 = 0) (hJ : (pCmd n s q.2.1 10).1 < 10) (hA : rdA n s q.2.1 = u) (hL : rdK n s q.2.2.1 q.2.1 q.2.2.2 = L) : rdN n s q = if n ≤ u then (1, u, L, q.2.2.2 + 1) else if sgN n s u = 59 then (0, u + 1, L, q.2.2.2 + 1) else (2, u, L, q.2.2.2 + 1) := by
  unfold rdN
  rw [if_pos h0, if_pos hJ, hA, hL]
theorem rdN_f {n : Nat} {s : Nat → Nat} {q : rS} (h0 : q.1 = 0) (hJ : ¬ (pCmd n s q.2.1 10).1 < 10) : rdN n s q = (2, (pCmd n s q.2.1 10).2, q.2.2.1, q.2.2.2) := by
  unfold rdN
  rw [if_pos h0, if_neg hJ]
theorem rdN_s {n : Nat} {s : Nat → Nat} {q : rS} (h0 : ¬ q.1 = 0) : rdN n s q = q := by
  unfold rdN
  rw [if_neg h0]
theorem pc_ge {n : Nat} {s : Nat → Nat} {a : Nat} : ∀ k, a ≤ (pCmd n s a k).2
  | 0 => Nat.le_refl a
  | k + 1 => by
    have ih := pc_ge (n := n) (s := s) (a := a) k
    have e : pCmd n s a (k + 1) = (if (pCmd n s a k).1 < k then pCmd n s a k else if (pTry n s a k).1 = true then (k, (pCmd n s a k).2) else (k + 1, if (pCmd n s a k).2 < (pTry n s a k).2.1 then (pTry n s a k).2.1 else (pCmd n s a k).2)) := rfl
    rw [e]
    generalize pCmd n s a k = C at *
    generalize pTry n s a k = T at *
    by_cases c : C.1 < k
    · rw [if_pos c]
      exact ih
    · rw [if_neg c]
      by_cases d : T.1 = true
      · rw [if_pos d]
        exact ih
      · rw [if_neg d]
        show a ≤ (if C.2 < T.2.1 then T.2.1 else C.2)
        split <;> omega
/-- what holds while it is read -/
def rdG (n : Nat) (q : rS) : Prop := q.2.1 ≤ n ∧ q.2.2.1.1 ≤ q.2.1 ∧ q.2.2.2 ≤ q.2.1 ∧ kBd q.2.2.1
theorem rdN_G {n : Nat} {s : Nat → Nat} {q : rS} (hn : n ≤ 60) (hs : ∀ j, j < n → s j < 65536) (h : rdG n q) : rdG n (rdN n s q) := by
  obtain ⟨h1, h2, h3, h4⟩ := id h
  by_cases c0 : q.1 = 0
  · by_cases c1 : (pCmd n s q.2.1 10).1 < 10
    · obtain ⟨J, hJ⟩ : ∃ J, (pCmd n s q.2.1 10).1 = J := ⟨_, rfl⟩
      obtain ⟨T, hT⟩ : ∃ T, pTry n s q.2.1 J = T := ⟨_, rfl⟩
      obtain ⟨k1, k2, k3, L, k4, k5, k6, -⟩ := cmd_K (K := q.2.2.1) (cc := q.2.2.2) hn hs h1 h2 h4 (by omega) hJ (by omega) hT
      rw [rdN_c c0 c1 k3 k4]
      generalize T.2.1 = u at *
      by_cases c2 : n ≤ u
      · rw [if_pos c2]
        exact ⟨k2, k5, by show q.2.2.2 + 1 ≤ u; omega, k6⟩
      · rw [if_neg c2]
        by_cases c3 : sgN n s u = 59
        · rw [if_pos c3]
          exact ⟨by show u + 1 ≤ n; omega, by show L.1 ≤ u + 1; omega, by show q.2.2.2 + 1 ≤ u + 1; omega, k6⟩
        · rw [if_neg c3]
          exact ⟨k2, k5, by show q.2.2.2 + 1 ≤ u; omega, k6⟩
    · have k1 := (pCmd_le (s := s) hn h1 10 (Nat.le_refl _)).2
      have k2 := pc_ge (n := n) (s := s) (a := q.2.1) 10
      rw [rdN_f c0 c1]
      generalize pCmd n s q.2.1 10 = C at *
      exact ⟨k1, by show q.2.2.1.1 ≤ C.2; omega, by show q.2.2.2 ≤ C.2; omega, h4⟩
  · rw [rdN_s c0]
    exact h
theorem rdS_G {n : Nat} {s : Nat → Nat} (hn : n ≤ 60) (hs : ∀ j, j < n → s j < 65536) : ∀ k, rdG n (rdS n s k)
  | 0 => ⟨Nat.zero_le _, Nat.le_refl 0, Nat.le_refl 0, fun j hj => absurd hj (Nat.not_lt_zero j)⟩
  | k + 1 => rdN_G hn hs (rdS_G hn hs k)
theorem rdS_ok {n : Nat} {s : Nat → Nat} (hn : n ≤ 60) (hs : ∀ j, j < n → s j < 65536) (k : Nat) : rdOk (rdS n s k) ∧ (rdS n s k).2.2.1.1 ≤ n := by
  obtain ⟨h1, h2, h3, h4⟩ := rdS_G hn hs k
  exact ⟨⟨by omega, fun j hj => ⟨(h4 j hj).2.1, (h4 j hj).2.2.2⟩⟩, by omega⟩
/-- while it goes on -/
theorem rdN_0 {n : Nat} {s : Nat → Nat} {q : rS} (h : (rdN n s q).1 = 0) : q.1 = 0 ∧ (pCmd n s q.2.1 10).1 < 10 ∧ (rdN n s q).2.1 = rdA n s q.2.1 + 1 ∧ (rdN n s q).2.2.2 = q.2.2.2 + 1 ∧ (rdN n s q).2.2.1 = rdK n s q.2.2.1 q.2.1 q.2.2.2 := by
  by_cases c0 : q.1 = 0
  · by_cases c1 : (pCmd n s q.2.1 10).1 < 10
    · obtain ⟨u, hu⟩ : ∃ u, rdA n s q.2.1 = u := ⟨_, rfl⟩
      obtain ⟨L, hL⟩ : ∃ L, rdK n s q.2.2.1 q.2.1 q.2.2.2 = L := ⟨_, rfl⟩
      rw [rdN_c c0 c1 hu hL] at h ⊢
      rw [hu, hL]
      by_cases c2 : n ≤ u
      · rw [if_pos c2] at h
        exact absurd h (by show ¬ (1 : Nat) = 0; decide)
      · rw [if_neg c2] at h ⊢
        by_cases c3 : sgN n s u = 59
        · rw [if_pos c3]
          exact ⟨c0, c1, rfl, rfl, rfl⟩
        · rw [if_neg c3] at h
          exact absurd h (by show ¬ (2 : Nat) = 0; decide)
    · rw [rdN_f c0 c1] at h
      exact absurd h (by show ¬ (2 : Nat) = 0; decide)
  · rw [rdN_s c0] at h
    exact absurd h c0
theorem rd_on {n : Nat} {s : Nat → Nat} (hn : n ≤ 60) (hs : ∀ j, j < n → s j < 65536) : ∀ k, (rdS n s k).1 = 0 → 2 * k ≤ (rdS n s k).2.1 ∧ (rdS n s k).2.2.2 = k
  | 0, _ => ⟨Nat.le_refl 0, rfl⟩
  | k + 1, h => by
    have hG := rdS_G hn hs k
    have ih := rd_on hn hs k
    change (rdN n s (rdS n s k)).1 = 0 at h
    show 2 * (k + 1) ≤ (rdN n s (rdS n s k)).2.1 ∧ (rdN n s (rdS n s k)).2.2.2 = k + 1
    generalize rdS n s k = q at *
    obtain ⟨h1, h2, h3, h4⟩ := hG
    obtain ⟨c0, c1, e1, e2, -⟩ := rdN_0 h
    obtain ⟨J, hJ⟩ : ∃ J, (pCmd n s q.2.1 10).1 = J := ⟨_, rfl⟩
    obtain ⟨T, hT⟩ : ∃ T, pTry n s q.2.1 J = T := ⟨_, rfl⟩
    obtain ⟨k1, k2, k3, -⟩ := cmd_K (K := q.2.2.1) (cc := q.2.2.2) hn hs h1 h2 h4 (by omega) hJ (by omega) hT
    have ih := ih c0
    rw [e1, e2, k3]
    omega
/-- row i of the reference's commands is command i -/
def rowC (n : Nat) (s cs : Nat → Nat) (k : Nat) : Prop := (rdS n s k).1 = 0 ∧ ∃ J, J < 10 ∧ (pCmd n s (rdS n s k).2.1 10).1 = J ∧ cs (3 * k) = ltr J ∧ cs (3 * k + 1) = (pTry n s (rdS n s k).2.1 J).2.2.1 ∧ cs (3 * k + 2) = (if J = 1 then (pTry n s (rdS n s k).2.1 J).2.2.2.1 - (pTry n s (rdS n s k).2.1 J).2.2.1 else (pTry n s (rdS n s k).2.1 J).2.2.2.1)
theorem rowC_x {n : Nat} {s c1 c2 : Nat → Nat} {k : Nat} (h : rowC n s c1 k) (e : ∀ q, 3 * k ≤ q → q < 3 * k + 3 → c2 q = c1 q) : rowC n s c2 k := by
  obtain ⟨h0, J, hJ, h1, h2, h3, h4⟩ := h
  exact ⟨h0, J, hJ, h1, (e _ (by omega) (by omega)).trans h2, (e _ (by omega) (by omega)).trans h3, (e _ (by omega) (by omega)).trans h4⟩
theorem cmR_0 {n : Nat} {s : Nat → Nat} {a r h1 : Nat} {cs : Nat → Nat} (h : cmR n s a r h1 0 cs) : ∃ J, J < 10 ∧ (pCmd n s a 10).1 = J ∧ rdA n s a = h1 ∧ cs r = ltr J ∧ cs (r + 1) = (pTry n s a J).2.2.1 ∧ cs (r + 2) = (if J = 1 then (pTry n s a J).2.2.2.1 - (pTry n s a J).2.2.1 else (pTry n s a J).2.2.2.1) := by
  obtain ⟨⟨J, hJ, h2⟩, -⟩ := h
  obtain ⟨u1, u2, u3, u4, u5⟩ := h2 rfl
  refine ⟨J, hJ, u1, ?_, u3, u4, u5⟩
  unfold rdA
  rw [u1]
  exact u2
theorem rd_row {n : Nat} {s cs : Nat → Nat} {k h : Nat} (hk : (rdS n s k).1 = 0) (hc : cmR n s (rdS n s k).2.1 (3 * k) h 0 cs) : rowC n s cs k := by
  obtain ⟨J, u0, u1, -, u3⟩ := cmR_0 hc
  exact ⟨hk, J, u0, u1, u3⟩
theorem rd_next {n : Nat} {s cs : Nat → Nat} {k h : Nat} (hk : (rdS n s k).1 = 0) (hc : cmR n s (rdS n s k).2.1 (3 * k) h 0 cs) (h9 : h < n ∧ s h = 59) : (rdS n s (k + 1)).1 = 0 ∧ (rdS n s (k + 1)).2.1 = h + 1 := by
  obtain ⟨J, u0, u1, u2, -⟩ := cmR_0 hc
  obtain ⟨L, hL⟩ : ∃ L, rdK n s (rdS n s k).2.2.1 (rdS n s k).2.1 (rdS n s k).2.2.2 = L := ⟨_, rfl⟩
  have e : rdS n s (k + 1) = rdN n s (rdS n s k) := rfl
  rw [e, rdN_c hk (by omega) u2 hL, if_neg (by omega), if_pos (show sgN n s h = 59 from (if_pos h9.1).trans h9.2)]
  exact ⟨rfl, rfl⟩
/-- what a whole reading leaves -/
def parR (n : Nat) (s : Nat → Nat) (e cn : Nat) (cs : Nat → Nat) : Prop := ∀ R, rdS n s 60 = R → (e ≠ 0 → R.1 = 2 ∧ R.2.1 + 1 = e) ∧ (e = 0 → R.1 = 1 ∧ R.2.2.2 = cn ∧ rdS n s cn = R ∧ cn ≤ 60 ∧ ∀ i, i < cn → rowC n s cs i)
theorem par_err {n : Nat} {s cs : Nat → Nat} {k h e : Nat} (hn : n ≤ 60) (hs : ∀ j, j < n → s j < 65536) (hk : (rdS n s k).1 = 0) (hc : cmR n s (rdS n s k).2.1 (3 * k) h e cs) (h9 : e ≠ 0) (cn : Nat) : parR n s e cn cs := by
  intro R hR
  refine ⟨fun _ => ?_, fun q => absurd q h9⟩
  obtain ⟨-, h2⟩ := hc
  obtain ⟨u1, u2⟩ := h2 h9
  obtain ⟨C, hC⟩ : ∃ C, pCmd n s (rdS n s k).2.1 10 = C := ⟨_, rfl⟩
  rw [hC] at u1 u2
  have hb := (rd_on hn hs k hk).1
  have hb2 := (rdS_G hn hs k).1
  have e1 : rdS n s (k + 1) = (2, C.2, (rdS n s k).2.2.1, (rdS n s k).2.2.2) := (rdN_f hk (by rw [hC]; omega)).trans (by rw [hC])
  have e2 := rdS_end e1 (by omega) (by show ¬ (2 : Nat) = 0; decide)
  rw [← hR, e2]
  exact ⟨rfl, u2⟩
theorem par_more {n : Nat} {s cs : Nat → Nat} {k h : Nat} (hn : n ≤ 60) (hs : ∀ j, j < n → s j < 65536) (hk : (rdS n s k).1 = 0) (hc : cmR n s (rdS n s k).2.1 (3 * k) h 0 cs) (h1 : h < n) (h9 : ¬ (h < n ∧ s h = 59)) (cn : Nat) : parR n s (h + 1) cn cs := by
  intro R hR
  refine ⟨fun _ => ?_, fun q => absurd q (Nat.succ_ne_zero h)⟩
  obtain ⟨J, u0, u1, u2, -⟩ := cmR_0 hc
  obtain ⟨L, hL⟩ : ∃ L, rdK n s (rdS n s k).2.2.1 (rdS n s k).2.1 (rdS n s k).2.2.2 = L := ⟨_, rfl⟩
  have hb := (rd_on hn hs k hk).1
  have hb2 := (rdS_G hn hs k).1
  have e1 : rdS n s (k + 1) = (2, h, L, (rdS n s k).2.2.2 + 1) := (rdN_c hk (by omega) u2 hL).trans ((if_neg (by omega)).trans (if_neg (fun q => h9 ⟨h1, (if_pos h1).symm.trans q⟩)))
  have e2 := rdS_end e1 (by omega) (by show ¬ (2 : Nat) = 0; decide)
  rw [← hR, e2]
  exact ⟨rfl, rfl⟩
theorem par_end {n : Nat} {s cs : Nat → Nat} {k h : Nat} (hn : n ≤ 60) (hs : ∀ j, j < n → s j < 65536) (hk : (rdS n s k).1 = 0) (hc : cmR n s (rdS n s k).2.1 (3 * k) h 0 cs) (h1 : ¬ h < n) (hr : ∀ i, i < k → rowC n s cs i) : parR n s 0 (k + 1) cs := by
  intro R hR
  refine ⟨fun q => absurd rfl q, fun _ => ?_⟩
  obtain ⟨J, u0, u1, u2, -⟩ := cmR_0 hc
  obtain ⟨L, hL⟩ : ∃ L, rdK n s (rdS n s k).2.2.1 (rdS n s k).2.1 (rdS n s k).2.2.2 = L := ⟨_, rfl⟩
  obtain ⟨hb, hb3⟩ := rd_on hn hs k hk
  have hb2 := (rdS_G hn hs k).1
  have e1 : rdS n s (k + 1) = (1, h, L, (rdS n s k).2.2.2 + 1) := (rdN_c hk (by omega) u2 hL).trans (if_pos (by omega))
  have e2 := rdS_end e1 (by omega) (by show ¬ (1 : Nat) = 0; decide)
  rw [← hR, e2, e1, hb3]
  refine ⟨rfl, rfl, rfl, by omega, fun i hi => ?_⟩
  by_cases q : i = k
  · rw [q]
    exact rd_row hk hc
  · exact hr i (by omega)

theorem d_MessageCoderModel_parse_0 : decode prog_14_method_117_code 0 = .ok (.aload_n 0, 1) := by decide +kernel
theorem d_MessageCoderModel_parse_1 : decode prog_14_method_117_code 1 = .ok (.iconst 0, 1) := by decide +kernel
theorem d_MessageCoderModel_parse_2 : decode prog_14_method_117_code 2 = .ok (.putfield 239, 3) := by decide +kernel
theorem d_MessageCoderModel_parse_5 : decode prog_14_method_117_code 5 = .ok (.aload_n 0, 1) := by decide +kernel
theorem d_MessageCoderModel_parse_6 : decode prog_14_method_117_code 6 = .ok (.iconst (-1), 1) := by decide +kernel
theorem d_MessageCoderModel_parse_7 : decode prog_14_method_117_code 7 = .ok (.putfield 242, 3) := by decide +kernel
theorem d_MessageCoderModel_parse_10 : decode prog_14_method_117_code 10 = .ok (.aload_n 0, 1) := by decide +kernel
theorem d_MessageCoderModel_parse_11 : decode prog_14_method_117_code 11 = .ok (.iconst 0, 1) := by decide +kernel
theorem d_MessageCoderModel_parse_12 : decode prog_14_method_117_code 12 = .ok (.putfield 264, 3) := by decide +kernel
theorem d_MessageCoderModel_parse_15 : decode prog_14_method_117_code 15 = .ok (.aload_n 0, 1) := by decide +kernel
theorem d_MessageCoderModel_parse_16 : decode prog_14_method_117_code 16 = .ok (.invokevirtual 279, 3) := by decide +kernel
theorem d_MessageCoderModel_parse_19 : decode prog_14_method_117_code 19 = .ok (.aload_n 0, 1) := by decide +kernel
theorem d_MessageCoderModel_parse_20 : decode prog_14_method_117_code 20 = .ok (.getfield 242, 3) := by decide +kernel
theorem d_MessageCoderModel_parse_23 : decode prog_14_method_117_code 23 = .ok (.ifCond .ge 29, 3) := by decide +kernel
theorem d_MessageCoderModel_parse_26 : decode prog_14_method_117_code 26 = .ok (.aload_n 0, 1) := by decide +kernel
theorem d_MessageCoderModel_parse_27 : decode prog_14_method_117_code 27 = .ok (.invokevirtual 245, 3) := by decide +kernel
theorem d_MessageCoderModel_parse_30 : decode prog_14_method_117_code 30 = .ok (.bipush 59, 2) := by decide +kernel
theorem d_MessageCoderModel_parse_32 : decode prog_14_method_117_code 32 = .ok (.if_icmp .ne 20, 3) := by decide +kernel
theorem d_MessageCoderModel_parse_35 : decode prog_14_method_117_code 35 = .ok (.aload_n 0, 1) := by decide +kernel
theorem d_MessageCoderModel_parse_36 : decode prog_14_method_117_code 36 = .ok (.dup, 1) := by decide +kernel
theorem d_MessageCoderModel_parse_37 : decode prog_14_method_117_code 37 = .ok (.getfield 239, 3) := by decide +kernel
theorem d_MessageCoderModel_parse_40 : decode prog_14_method_117_code 40 = .ok (.iconst 1, 1) := by decide +kernel
theorem d_MessageCoderModel_parse_41 : decode prog_14_method_117_code 41 = .ok (.iadd, 1) := by decide +kernel
theorem d_MessageCoderModel_parse_42 : decode prog_14_method_117_code 42 = .ok (.putfield 239, 3) := by decide +kernel
theorem d_MessageCoderModel_parse_45 : decode prog_14_method_117_code 45 = .ok (.aload_n 0, 1) := by decide +kernel
theorem d_MessageCoderModel_parse_46 : decode prog_14_method_117_code 46 = .ok (.invokevirtual 279, 3) := by decide +kernel
theorem d_MessageCoderModel_parse_49 : decode prog_14_method_117_code 49 = .ok (.goto (-30), 3) := by decide +kernel
theorem d_MessageCoderModel_parse_52 : decode prog_14_method_117_code 52 = .ok (.aload_n 0, 1) := by decide +kernel
theorem d_MessageCoderModel_parse_53 : decode prog_14_method_117_code 53 = .ok (.getfield 242, 3) := by decide +kernel
theorem d_MessageCoderModel_parse_56 : decode prog_14_method_117_code 56 = .ok (.ifCond .ge 22, 3) := by decide +kernel
theorem d_MessageCoderModel_parse_59 : decode prog_14_method_117_code 59 = .ok (.aload_n 0, 1) := by decide +kernel
theorem d_MessageCoderModel_parse_60 : decode prog_14_method_117_code 60 = .ok (.getfield 239, 3) := by decide +kernel
theorem d_MessageCoderModel_parse_63 : decode prog_14_method_117_code 63 = .ok (.aload_n 0, 1) := by decide +kernel
theorem d_MessageCoderModel_parse_64 : decode prog_14_method_117_code 64 = .ok (.getfield 236, 3) := by decide +kernel
theorem d_MessageCoderModel_parse_67 : decode prog_14_method_117_code 67 = .ok (.if_icmp .ge 11, 3) := by decide +kernel
theorem d_MessageCoderModel_parse_70 : decode prog_14_method_117_code 70 = .ok (.aload_n 0, 1) := by decide +kernel
theorem d_MessageCoderModel_parse_71 : decode prog_14_method_117_code 71 = .ok (.aload_n 0, 1) := by decide +kernel
theorem d_MessageCoderModel_parse_72 : decode prog_14_method_117_code 72 = .ok (.getfield 239, 3) := by decide +kernel
theorem d_MessageCoderModel_parse_75 : decode prog_14_method_117_code 75 = .ok (.putfield 242, 3) := by decide +kernel
theorem d_MessageCoderModel_parse_78 : decode prog_14_method_117_code 78 = .ok (.return_, 1) := by decide +kernel
set_option maxHeartbeats 4000000 in
set_option maxRecDepth 20000 in
theorem c_MessageCoderModel_parse {P : xP} {F : xF} {z : Nat} {m : Nat} {th : Nat} {ch : Nat} {sv : Nat} {rs : Int32} {bm : Nat} {dm : Nat} {lz : Nat} {ty : Nat} {he : Nat} {er : Int32} {ea : Int32} {fa : Int32} {cn : Nat} {ip : Nat → Nat} {cs : Nat → Nat} (o0 : F (m) = some (.inl (10, [.int (nI (th)), .ref (m + 1), .int (nI (ch)), .int (nI (sv)), .int rs, .ref (m + 2), .ref (m + 3), .ref (m + 4), .ref (m + 5), .ref (m + 6), .int (nI (bm)), .ref (m + 7), .int (nI (dm)), .ref (m + 8), .ref (m + 9), .int (nI (lz)), .ref (m + 10), .int (nI (ty)), .int (nI (he)), .int er, .int ea, .int fa, .ref (m + 11), .int (nI (cn))]))) (hi : F (m + 10) = some (.inr (1, 60, fun b9 => .int (nI (ip b9))))) (hcm : F (m + 11) = some (.inr (0, 183, fun b9 => .int (nI (cs b9))))) (hs : ∀ j, j < ty → ip j < 65536) (hty : ty ≤ 60) : xM P xy_MessageCoderModel_parse [.ref m] F (z) 0 0 (fun r9 F9 z9 => ∃ h1 : Nat, ∃ e1 : Nat, ∃ cs1 : Nat → Nat, ∃ cn1 : Nat, r9 = none ∧ z9 = z ∧ F9 (m) = some (.inl (10, [.int (nI (th)), .ref (m + 1), .int (nI (ch)), .int (nI (sv)), .int rs, .ref (m + 2), .ref (m + 3), .ref (m + 4), .ref (m + 5), .ref (m + 6), .int (nI (bm)), .ref (m + 7), .int (nI (dm)), .ref (m + 8), .ref (m + 9), .int (nI (lz)), .ref (m + 10), .int (nI (ty)), .int (nI (h1)), .int (eI (e1)), .int ea, .int fa, .ref (m + 11), .int (nI (cn1))])) ∧ F9 (m + 10) = some (.inr (1, 60, fun b9 => .int (nI (ip b9)))) ∧ F9 (m + 11) = some (.inr (0, 183, fun b9 => .int (nI (cs1 b9)))) ∧ (parR ty ip e1 cn1 cs1) ∧ (qB ty (h1, e1)) ∧ (∀ a9 : Nat, (a9 < m ∨ m + 1 ≤ a9) → (a9 < m + 11 ∨ m + 11 + 1 ≤ a9) → F9 a9 = F a9)) := by
  refine xM_v rfl (Nat.le_of_ble_eq_true rfl) (L0 := [some (.ref m)]) rfl rfl fun Θ hC hin hret => ?_
  have hag : ∀ a9 : Nat, (a9 < m ∨ m + 1 ≤ a9) → (a9 < m + 11 ∨ m + 11 + 1 ≤ a9) → F a9 = F a9 := fun a9 _ _ => rfl
  refine x_aload_n hC d_MessageCoderModel_parse_0 rfl rfl ?_
  refine x_iconst hC d_MessageCoderModel_parse_1 (v := nI 0) (by decide) ?_
  refine x_putf hC kf_MessageCoderModel_239 o0 (Nat.le_of_ble_eq_true rfl) rfl rfl d_MessageCoderModel_parse_2 (fs1 := [.int (nI (th)), .ref (m + 1), .int (nI (ch)), .int (nI (sv)), .int rs, .ref (m + 2), .ref (m + 3), .ref (m + 4), .ref (m + 5), .ref (m + 6), .int (nI (bm)), .ref (m + 7), .int (nI (dm)), .ref (m + 8), .ref (m + 9), .int (nI (lz)), .ref (m + 10), .int (nI (ty)), .int (nI 0), .int er, .int ea, .int fa, .ref (m + 11), .int (nI (cn))]) rfl ?_
  generalize e1 : xup F (m) (.inl (10, [.int (nI (th)), .ref (m + 1), .int (nI (ch)), .int (nI (sv)), .int rs, .ref (m + 2), .ref (m + 3), .ref (m + 4), .ref (m + 5), .ref (m + 6), .int (nI (bm)), .ref (m + 7), .int (nI (dm)), .ref (m + 8), .ref (m + 9), .int (nI (lz)), .ref (m + 10), .int (nI (ty)), .int (nI 0), .int er, .int ea, .int fa, .ref (m + 11), .int (nI (cn))])) = F1
  have o0 : F1 (m) = some (.inl (10, [.int (nI (th)), .ref (m + 1), .int (nI (ch)), .int (nI (sv)), .int rs, .ref (m + 2), .ref (m + 3), .ref (m + 4), .ref (m + 5), .ref (m + 6), .int (nI (bm)), .ref (m + 7), .int (nI (dm)), .ref (m + 8), .ref (m + 9), .int (nI (lz)), .ref (m + 10), .int (nI (ty)), .int (nI 0), .int er, .int ea, .int fa, .ref (m + 11), .int (nI (cn))])) := by rw [← e1]; exact xup_eq
  have hi : F1 (m + 10) = some (.inr (1, 60, fun b9 => .int (nI (ip b9)))) := by rw [← e1]; exact (xup_ne (by omega)).trans hi
  have hcm : F1 (m + 11) = some (.inr (0, 183, fun b9 => .int (nI (cs b9)))) := by rw [← e1]; exact (xup_ne (by omega)).trans hcm
  have hag : ∀ a9 : Nat, (a9 < m ∨ m + 1 ≤ a9) → (a9 < m + 11 ∨ m + 11 + 1 ≤ a9) → F1 a9 = F a9 := fun a9 q0 q1 => by rw [← e1]; exact (xup_ne (by omega)).trans (hag a9 q0 q1)
  refine x_aload_n hC d_MessageCoderModel_parse_5 rfl rfl ?_
  refine x_iconst hC d_MessageCoderModel_parse_6 (v := -1) (by decide) ?_
  refine x_putf hC kf_MessageCoderModel_242 o0 (Nat.le_of_ble_eq_true rfl) rfl rfl d_MessageCoderModel_parse_7 (fs1 := [.int (nI (th)), .ref (m + 1), .int (nI (ch)), .int (nI (sv)), .int rs, .ref (m + 2), .ref (m + 3), .ref (m + 4), .ref (m + 5), .ref (m + 6), .int (nI (bm)), .ref (m + 7), .int (nI (dm)), .ref (m + 8), .ref (m + 9), .int (nI (lz)), .ref (m + 10), .int (nI (ty)), .int (nI 0), .int (-1), .int ea, .int fa, .ref (m + 11), .int (nI (cn))]) rfl ?_
  generalize e2 : xup F1 (m) (.inl (10, [.int (nI (th)), .ref (m + 1), .int (nI (ch)), .int (nI (sv)), .int rs, .ref (m + 2), .ref (m + 3), .ref (m + 4), .ref (m + 5), .ref (m + 6), .int (nI (bm)), .ref (m + 7), .int (nI (dm)), .ref (m + 8), .ref (m + 9), .int (nI (lz)), .ref (m + 10), .int (nI (ty)), .int (nI 0), .int (-1), .int ea, .int fa, .ref (m + 11), .int (nI (cn))])) = F2
  have o0 : F2 (m) = some (.inl (10, [.int (nI (th)), .ref (m + 1), .int (nI (ch)), .int (nI (sv)), .int rs, .ref (m + 2), .ref (m + 3), .ref (m + 4), .ref (m + 5), .ref (m + 6), .int (nI (bm)), .ref (m + 7), .int (nI (dm)), .ref (m + 8), .ref (m + 9), .int (nI (lz)), .ref (m + 10), .int (nI (ty)), .int (nI 0), .int (-1), .int ea, .int fa, .ref (m + 11), .int (nI (cn))])) := by rw [← e2]; exact xup_eq
  have hi : F2 (m + 10) = some (.inr (1, 60, fun b9 => .int (nI (ip b9)))) := by rw [← e2]; exact (xup_ne (by omega)).trans hi
  have hcm : F2 (m + 11) = some (.inr (0, 183, fun b9 => .int (nI (cs b9)))) := by rw [← e2]; exact (xup_ne (by omega)).trans hcm
  have hag : ∀ a9 : Nat, (a9 < m ∨ m + 1 ≤ a9) → (a9 < m + 11 ∨ m + 11 + 1 ≤ a9) → F2 a9 = F a9 := fun a9 q0 q1 => by rw [← e2]; exact (xup_ne (by omega)).trans (hag a9 q0 q1)
  refine x_aload_n hC d_MessageCoderModel_parse_10 rfl rfl ?_
  refine x_iconst hC d_MessageCoderModel_parse_11 (v := nI 0) (by decide) ?_
  refine x_putf hC kf_MessageCoderModel_264 o0 (Nat.le_of_ble_eq_true rfl) rfl rfl d_MessageCoderModel_parse_12 (fs1 := [.int (nI (th)), .ref (m + 1), .int (nI (ch)), .int (nI (sv)), .int rs, .ref (m + 2), .ref (m + 3), .ref (m + 4), .ref (m + 5), .ref (m + 6), .int (nI (bm)), .ref (m + 7), .int (nI (dm)), .ref (m + 8), .ref (m + 9), .int (nI (lz)), .ref (m + 10), .int (nI (ty)), .int (nI 0), .int (-1), .int ea, .int fa, .ref (m + 11), .int (nI 0)]) rfl ?_
  generalize e3 : xup F2 (m) (.inl (10, [.int (nI (th)), .ref (m + 1), .int (nI (ch)), .int (nI (sv)), .int rs, .ref (m + 2), .ref (m + 3), .ref (m + 4), .ref (m + 5), .ref (m + 6), .int (nI (bm)), .ref (m + 7), .int (nI (dm)), .ref (m + 8), .ref (m + 9), .int (nI (lz)), .ref (m + 10), .int (nI (ty)), .int (nI 0), .int (-1), .int ea, .int fa, .ref (m + 11), .int (nI 0)])) = F3
  have o0 : F3 (m) = some (.inl (10, [.int (nI (th)), .ref (m + 1), .int (nI (ch)), .int (nI (sv)), .int rs, .ref (m + 2), .ref (m + 3), .ref (m + 4), .ref (m + 5), .ref (m + 6), .int (nI (bm)), .ref (m + 7), .int (nI (dm)), .ref (m + 8), .ref (m + 9), .int (nI (lz)), .ref (m + 10), .int (nI (ty)), .int (nI 0), .int (-1), .int ea, .int fa, .ref (m + 11), .int (nI 0)])) := by rw [← e3]; exact xup_eq
  have hi : F3 (m + 10) = some (.inr (1, 60, fun b9 => .int (nI (ip b9)))) := by rw [← e3]; exact (xup_ne (by omega)).trans hi
  have hcm : F3 (m + 11) = some (.inr (0, 183, fun b9 => .int (nI (cs b9)))) := by rw [← e3]; exact (xup_ne (by omega)).trans hcm
  have hag : ∀ a9 : Nat, (a9 < m ∨ m + 1 ≤ a9) → (a9 < m + 11 ∨ m + 11 + 1 ≤ a9) → F3 a9 = F a9 := fun a9 q0 q1 => by rw [← e3]; exact (xup_ne (by omega)).trans (hag a9 q0 q1)
  refine x_aload_n hC d_MessageCoderModel_parse_15 rfl rfl ?_
  refine x_callV hC kv_MessageCoderModel_279 (c_MessageCoderModel_command (o0 := o0) (hi := hi) (hcm := hcm) (hs := hs) (hty := hty) (hh := Nat.zero_le _) (hcn := by omega) (h := 0) (cn := 0)) o0 rfl rfl (by decide) rfl rfl rfl (Nat.le_of_ble_eq_true rfl) (by decide) d_MessageCoderModel_parse_16 (fun r9 F9 z9 hp9 => ?_)
  obtain ⟨h1_16, e1_16, cs1_16, rfl, h9c, j0, j1, j2, pk_16, po_16, pb_16, hag9⟩ := hp9
  rw [h9c]
  clear h9c z9
  generalize F9 = F4 at *
  have o0 : F4 (m) = some (.inl (10, [.int (nI (th)), .ref (m + 1), .int (nI (ch)), .int (nI (sv)), .int rs, .ref (m + 2), .ref (m + 3), .ref (m + 4), .ref (m + 5), .ref (m + 6), .int (nI (bm)), .ref (m + 7), .int (nI (dm)), .ref (m + 8), .ref (m + 9), .int (nI (lz)), .ref (m + 10), .int (nI (ty)), .int (nI (h1_16)), .int (eI (e1_16)), .int ea, .int fa, .ref (m + 11), .int (nI ((0 + 1)))])) := j0
  have hi : F4 (m + 10) = some (.inr (1, 60, fun b9 => .int (nI (ip b9)))) := j1
  have hcm : F4 (m + 11) = some (.inr (0, 183, fun b9 => .int (nI (cs1_16 b9)))) := j2
  have hag : ∀ a9 : Nat, (a9 < m ∨ m + 1 ≤ a9) → (a9 < m + 11 ∨ m + 11 + 1 ≤ a9) → F4 a9 = F a9 := fun a9 q0 q1 => (hag9 a9 (by omega) (by omega)).trans (hag a9 q0 q1)
  have hg_16 := hag9
  clear hag9
  have loop_19 : ∀ (m9 : Nat) (Fh19 : xF) (k : Nat) (h : Nat) (e : Nat) (cs2 : Nat → Nat), (Fh19 (m) = some (.inl (10, [.int (nI (th)), .ref (m + 1), .int (nI (ch)), .int (nI (sv)), .int rs, .ref (m + 2), .ref (m + 3), .ref (m + 4), .ref (m + 5), .ref (m + 6), .int (nI (bm)), .ref (m + 7), .int (nI (dm)), .ref (m + 8), .ref (m + 9), .int (nI (lz)), .ref (m + 10), .int (nI (ty)), .int (nI (h)), .int (eI (e)), .int ea, .int fa, .ref (m + 11), .int (nI ((k + 1)))]))) → (Fh19 (m + 10) = some (.inr (1, 60, fun b9 => .int (nI (ip b9))))) → (Fh19 (m + 11) = some (.inr (0, 183, fun b9 => .int (nI (cs2 b9))))) → (∀ a9 : Nat, (a9 < m ∨ m + 1 ≤ a9) → (a9 < m + 11 ∨ m + 11 + 1 ≤ a9) → Fh19 a9 = F a9) → ((rdS ty ip k).1 = 0) → (cmR ty ip (rdS ty ip k).2.1 (3 * k) h e cs2) → (∀ i, i < k → rowC ty ip cs2 i) → (qB ty (h, e)) → (61 - k < m9) → xX P Θ 19 [some (.ref m)] [] Fh19 (z) 0 0 := by
    intro m9
    induction m9 with
    | zero => intros; omega
    | succ m9 ih_19 =>
      intro Fh19 k h e cs2 o0 hi hcm hag hk hcr hrw hqk hm_19
      have hq1 : h ≤ ty := hqk.1
      have hq2 : e ≤ ty + 1 := hqk.2
      have hb8 := rd_on hty hs k hk
      have hG8 := (rdS_G hty hs k).1
      refine x_aload_n hC d_MessageCoderModel_parse_19 rfl rfl ?_
      refine x_getf hC kf_MessageCoderModel_242 o0 rfl d_MessageCoderModel_parse_20 ?_
      refine x_if_ge hC d_MessageCoderModel_parse_23 (tgt := 52) (by decide) (fun c_23 => ?_) (fun c_23 => ?_)
      · skip
        have he1 : e ≠ 0 := fun h9 => by rw [h9] at c_23; exact absurd c_23 (by decide)
        refine x_aload_n hC d_MessageCoderModel_parse_52 rfl rfl ?_
        refine x_getf hC kf_MessageCoderModel_242 o0 rfl d_MessageCoderModel_parse_53 ?_
        refine x_if_ge hC d_MessageCoderModel_parse_56 (tgt := 78) (by decide) (fun c_56 => ?_) (fun c_56 => ?_)
        · skip
          exact hret _ _ _ _ _ _ d_MessageCoderModel_parse_78 (by decide) (by decide) (⟨h, e, cs2, k + 1, rfl, rfl, o0, hi, hcm, par_err hty hs hk hcr he1 _, hqk, hag⟩)
        · skip
          first | exact absurd c_23 c_56 | exact absurd c_56 (by decide)
      · skip
        have he0 : e = 0 := (eI_lt (by omega)).mp (Int32.not_le.mp c_23)
        rw [he0] at o0 hcr hqk
        refine x_aload_n hC d_MessageCoderModel_parse_26 rfl rfl ?_
        refine x_callV hC kv_MessageCoderModel_245 (c_MessageCoderModel_sign (o0 := o0) (hi := hi) (hs := hs) (hty := hty) (hq := hqk)) o0 rfl rfl (by decide) rfl rfl rfl (Nat.le_of_ble_eq_true rfl) (by decide) d_MessageCoderModel_parse_27 (fun r9 F9 z9 hp9 => ?_)
        obtain ⟨rfl, h9b, h9c⟩ := hp9
        rw [h9b, h9c]
        clear h9b h9c F9 z9
        refine x_bipush hC d_MessageCoderModel_parse_30 (v := nI 59) (by decide) ?_
        refine x_icmp_ne hC d_MessageCoderModel_parse_32 (tgt := 52) (by decide) (fun c_32 => ?_) (fun c_32 => ?_)
        · skip
          have h59 : ¬ (h < ty ∧ ip h = 59) := fun h9 => c_32 ((sg_eq hs (by decide)).mpr h9)
          refine x_aload_n hC d_MessageCoderModel_parse_52 rfl rfl ?_
          refine x_getf hC kf_MessageCoderModel_242 o0 rfl d_MessageCoderModel_parse_53 ?_
          refine x_if_ge hC d_MessageCoderModel_parse_56 (tgt := 78) (by decide) (fun c_56 => ?_) (fun c_56 => ?_)
          · skip
            first | exact absurd c_23 c_56 | exact absurd c_56 (by decide)
          · skip
            refine x_aload_n hC d_MessageCoderModel_parse_59 rfl rfl ?_
            refine x_getf hC kf_MessageCoderModel_239 o0 rfl d_MessageCoderModel_parse_60 ?_
            refine x_aload_n hC d_MessageCoderModel_parse_63 rfl rfl ?_
            refine x_getf hC kf_MessageCoderModel_236 o0 rfl d_MessageCoderModel_parse_64 ?_
            refine x_icmpN_ge hC d_MessageCoderModel_parse_67 (tgt := 78) (by decide) (by omega) (by omega) (fun c_67 => ?_) (fun c_67 => ?_)
            · skip
              exact hret _ _ _ _ _ _ d_MessageCoderModel_parse_78 (by decide) (by decide) (⟨h, 0, cs2, k + 1, rfl, rfl, o0, hi, hcm, par_end hty hs hk hcr (by omega) hrw, hqk, hag⟩)
            · skip
              refine x_aload_n hC d_MessageCoderModel_parse_70 rfl rfl ?_
              refine x_aload_n hC d_MessageCoderModel_parse_71 rfl rfl ?_
              refine x_getf hC kf_MessageCoderModel_239 o0 rfl d_MessageCoderModel_parse_72 ?_
              refine x_putf hC kf_MessageCoderModel_242 o0 (Nat.le_of_ble_eq_true rfl) rfl rfl d_MessageCoderModel_parse_75 (fs1 := [.int (nI (th)), .ref (m + 1), .int (nI (ch)), .int (nI (sv)), .int rs, .ref (m + 2), .ref (m + 3), .ref (m + 4), .ref (m + 5), .ref (m + 6), .int (nI (bm)), .ref (m + 7), .int (nI (dm)), .ref (m + 8), .ref (m + 9), .int (nI (lz)), .ref (m + 10), .int (nI (ty)), .int (nI (h)), .int (nI (h)), .int ea, .int fa, .ref (m + 11), .int (nI ((k + 1)))]) rfl ?_
              generalize e5 : xup Fh19 (m) (.inl (10, [.int (nI (th)), .ref (m + 1), .int (nI (ch)), .int (nI (sv)), .int rs, .ref (m + 2), .ref (m + 3), .ref (m + 4), .ref (m + 5), .ref (m + 6), .int (nI (bm)), .ref (m + 7), .int (nI (dm)), .ref (m + 8), .ref (m + 9), .int (nI (lz)), .ref (m + 10), .int (nI (ty)), .int (nI (h)), .int (nI (h)), .int ea, .int fa, .ref (m + 11), .int (nI ((k + 1)))])) = F5
              have o0 : F5 (m) = some (.inl (10, [.int (nI (th)), .ref (m + 1), .int (nI (ch)), .int (nI (sv)), .int rs, .ref (m + 2), .ref (m + 3), .ref (m + 4), .ref (m + 5), .ref (m + 6), .int (nI (bm)), .ref (m + 7), .int (nI (dm)), .ref (m + 8), .ref (m + 9), .int (nI (lz)), .ref (m + 10), .int (nI (ty)), .int (nI (h)), .int (nI (h)), .int ea, .int fa, .ref (m + 11), .int (nI ((k + 1)))])) := by rw [← e5]; exact xup_eq
              have hi : F5 (m + 10) = some (.inr (1, 60, fun b9 => .int (nI (ip b9)))) := by rw [← e5]; exact (xup_ne (by omega)).trans hi
              have hcm : F5 (m + 11) = some (.inr (0, 183, fun b9 => .int (nI (cs2 b9)))) := by rw [← e5]; exact (xup_ne (by omega)).trans hcm
              have hag : ∀ a9 : Nat, (a9 < m ∨ m + 1 ≤ a9) → (a9 < m + 11 ∨ m + 11 + 1 ≤ a9) → F5 a9 = F a9 := fun a9 q0 q1 => by rw [← e5]; exact (xup_ne (by omega)).trans (hag a9 q0 q1)
              exact hret _ _ _ _ _ _ d_MessageCoderModel_parse_78 (by decide) (by decide) (⟨h, h + 1, cs2, k + 1, rfl, rfl, o0, hi, hcm, par_more hty hs hk hcr (by omega) h59 _, ⟨hq1, by show h + 1 ≤ ty + 1; omega⟩, hag⟩)
        · skip
          have h59 := (sg_eq hs (by decide)).mp c_32
          have hnx := rd_next hk hcr h59
          have hb9 := rd_on hty hs (k + 1) hnx.1
          have hG9 := (rdS_G hty hs (k + 1)).1
          have hrk := rd_row hk hcr
          refine x_aload_n hC d_MessageCoderModel_parse_35 rfl rfl ?_
          refine x_dup hC d_MessageCoderModel_parse_36 rfl ?_
          refine x_getf hC kf_MessageCoderModel_239 o0 rfl d_MessageCoderModel_parse_37 ?_
          refine x_iconst hC d_MessageCoderModel_parse_40 (v := nI 1) (by decide) ?_
          refine x_iadd hC d_MessageCoderModel_parse_41 (v := (nI (h + 1))) (x_addN (by omega)) ?_
          refine x_putf hC kf_MessageCoderModel_239 o0 (Nat.le_of_ble_eq_true rfl) rfl rfl d_MessageCoderModel_parse_42 (fs1 := [.int (nI (th)), .ref (m + 1), .int (nI (ch)), .int (nI (sv)), .int rs, .ref (m + 2), .ref (m + 3), .ref (m + 4), .ref (m + 5), .ref (m + 6), .int (nI (bm)), .ref (m + 7), .int (nI (dm)), .ref (m + 8), .ref (m + 9), .int (nI (lz)), .ref (m + 10), .int (nI (ty)), .int (nI (h + 1)), .int (eI (0)), .int ea, .int fa, .ref (m + 11), .int (nI ((k + 1)))]) rfl ?_
          generalize e6 : xup Fh19 (m) (.inl (10, [.int (nI (th)), .ref (m + 1), .int (nI (ch)), .int (nI (sv)), .int rs, .ref (m + 2), .ref (m + 3), .ref (m + 4), .ref (m + 5), .ref (m + 6), .int (nI (bm)), .ref (m + 7), .int (nI (dm)), .ref (m + 8), .ref (m + 9), .int (nI (lz)), .ref (m + 10), .int (nI (ty)), .int (nI (h + 1)), .int (eI (0)), .int ea, .int fa, .ref (m + 11), .int (nI ((k + 1)))])) = F6
          have o0 : F6 (m) = some (.inl (10, [.int (nI (th)), .ref (m + 1), .int (nI (ch)), .int (nI (sv)), .int rs, .ref (m + 2), .ref (m + 3), .ref (m + 4), .ref (m + 5), .ref (m + 6), .int (nI (bm)), .ref (m + 7), .int (nI (dm)), .ref (m + 8), .ref (m + 9), .int (nI (lz)), .ref (m + 10), .int (nI (ty)), .int (nI (h + 1)), .int (eI (0)), .int ea, .int fa, .ref (m + 11), .int (nI ((k + 1)))])) := by rw [← e6]; exact xup_eq
          have hi : F6 (m + 10) = some (.inr (1, 60, fun b9 => .int (nI (ip b9)))) := by rw [← e6]; exact (xup_ne (by omega)).trans hi
          have hcm : F6 (m + 11) = some (.inr (0, 183, fun b9 => .int (nI (cs2 b9)))) := by rw [← e6]; exact (xup_ne (by omega)).trans hcm
          have hag : ∀ a9 : Nat, (a9 < m ∨ m + 1 ≤ a9) → (a9 < m + 11 ∨ m + 11 + 1 ≤ a9) → F6 a9 = F a9 := fun a9 q0 q1 => by rw [← e6]; exact (xup_ne (by omega)).trans (hag a9 q0 q1)
          refine x_aload_n hC d_MessageCoderModel_parse_45 rfl rfl ?_
          refine x_callV hC kv_MessageCoderModel_279 (c_MessageCoderModel_command (o0 := o0) (hi := hi) (hcm := hcm) (hs := hs) (hty := hty) (hh := h59.1) (hcn := by omega)) o0 rfl rfl (by decide) rfl rfl rfl (Nat.le_of_ble_eq_true rfl) (by decide) d_MessageCoderModel_parse_46 (fun r9 F9 z9 hp9 => ?_)
          obtain ⟨h1_46, e1_46, cs1_46, rfl, h9c, j0, j1, j2, pk_46, po_46, pb_46, hag9⟩ := hp9
          rw [h9c]
          clear h9c z9
          generalize F9 = F7 at *
          have o0 : F7 (m) = some (.inl (10, [.int (nI (th)), .ref (m + 1), .int (nI (ch)), .int (nI (sv)), .int rs, .ref (m + 2), .ref (m + 3), .ref (m + 4), .ref (m + 5), .ref (m + 6), .int (nI (bm)), .ref (m + 7), .int (nI (dm)), .ref (m + 8), .ref (m + 9), .int (nI (lz)), .ref (m + 10), .int (nI (ty)), .int (nI (h1_46)), .int (eI (e1_46)), .int ea, .int fa, .ref (m + 11), .int (nI (((k + 1) + 1)))])) := j0
          have hi : F7 (m + 10) = some (.inr (1, 60, fun b9 => .int (nI (ip b9)))) := j1
          have hcm : F7 (m + 11) = some (.inr (0, 183, fun b9 => .int (nI (cs1_46 b9)))) := j2
          have hag : ∀ a9 : Nat, (a9 < m ∨ m + 1 ≤ a9) → (a9 < m + 11 ∨ m + 11 + 1 ≤ a9) → F7 a9 = F a9 := fun a9 q0 q1 => (hag9 a9 (by omega) (by omega)).trans (hag a9 q0 q1)
          have hg_46 := hag9
          clear hag9
          refine x_goto hC d_MessageCoderModel_parse_49 (tgt := 19) (by decide) ?_
          exact ih_19 F7 (k + 1) (h1_46) (e1_46) (cs1_46) o0 hi hcm hag (hnx.1) (by rw [hnx.2]; exact pk_46) (fun i hi => rowC_x ((Nat.lt_or_ge i k).elim (fun q => hrw i q) (fun q => by rw [show i = k by omega]; exact hrk)) (fun q h1 h2 => po_46 q (by omega))) (pb_46) (by omega)
  exact loop_19 (61 - 0 + 1) F4 (0) (h1_16) (e1_16) (cs1_16) o0 hi hcm hag (rfl) (pk_16) (fun i hi => absurd hi (Nat.not_lt_zero i)) (pb_16) (by omega)

