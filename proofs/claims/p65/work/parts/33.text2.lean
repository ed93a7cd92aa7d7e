/-! texts as lists of letters -/
theorem ls_l {l m : List Nat} {j : Nat} (h : j < l.length) : (l ++ m).getD j 0 = l.getD j 0 := by
  rw [List.getD_eq_getElem?_getD, List.getElem?_append_left h, ← List.getD_eq_getElem?_getD]
theorem ls_r {l m : List Nat} (i : Nat) : (l ++ m).getD (l.length + i) 0 = m.getD i 0 := by
  rw [List.getD_eq_getElem?_getD, List.getElem?_append_right (by omega), ← List.getD_eq_getElem?_getD, show l.length + i - l.length = i by omega]
def dgl (x : Nat) : List Nat := (List.range (dgs x)).map (dgc x)
theorem dgl_len (x : Nat) : (dgl x).length = dgs x := by simp [dgl]
theorem dgl_at {x j : Nat} (h : j < dgs x) : (dgl x).getD j 0 = dgc x j := by
  rw [dgl, List.getD_eq_getElem?_getD, List.getElem?_map, List.getElem?_range h]
  rfl
/-- a text made in the run stands at s, its letters behind it -/
def xTs (F : xF) (s : Nat) (l : List Nat) : Prop := ∃ g : Nat → Nat, F s = some (.inl (11, [.ref (s + 1), .int (nI 0), .int (nI 0), .int (nI 0)])) ∧ F (s + 1) = some (.inr (2, l.length, fun b9 => .int (nI (g b9)))) ∧ (∀ j, j < l.length → g j = l.getD j 0) ∧ (∀ j, j < l.length → l.getD j 0 < 128) ∧ l.length ≤ 200
theorem xTs_fr {F F1 : xF} {s : Nat} {l : List Nat} (h : xTs F s l) (hf : ∀ a, s ≤ a → a < s + 2 → F1 a = F a) : xTs F1 s l := by
  obtain ⟨g, h1, h2, h3⟩ := h
  exact ⟨g, (hf s (by omega) (by omega)).trans h1, (hf (s + 1) (by omega) (by omega)).trans h2, h3⟩
/-- a text that stands from the start -/
def xSo (P : xP) (s : Nat) (l : List Nat) : Prop := ∃ (vb fo : Nat) (g : Nat → Nat), xStr P s vb fo l.length g ∧ ∀ j, j < l.length → g j = l.getD j 0
/-- a builder at b, all of it between lo and z -/
def xSB (F : xF) (lo z b : Nat) (l : List Nat) : Prop := ∃ (v K : Nat) (g : Nat → Nat), (lo ≤ b ∧ b < z ∧ lo ≤ v ∧ v < z ∧ b ≠ v) ∧ F b = some (.inl (10, [.ref v, .int (nI 0), .int (nI 0), .int (nI l.length)])) ∧ F v = some (.inr (2, K, fun b9 => .int (nI (g b9)))) ∧ (l.length ≤ K ∧ K ≤ 450 ∧ l.length ≤ 200) ∧ (∀ j, j < l.length → g j = l.getD j 0) ∧ ∀ j, j < K → g j < 128
theorem xSB_app {F1 : xF} {lo z zz b v v1 K K1 : Nat} {g g1 : Nat → Nat} {l m : List Nat} (a1 : lo ≤ b ∧ b < z ∧ lo ≤ v ∧ v < z ∧ b ≠ v) (q1 : F1 b = some (.inl (10, [.ref v1, .int (nI 0), .int (nI 0), .int (nI (l.length + m.length))]))) (q2 : F1 v1 = some (.inr (2, K1, fun b9 => .int (nI (g1 b9))))) (a2 : l.length ≤ K ∧ K ≤ 450 ∧ l.length + m.length ≤ 200) (q3 : l.length + m.length ≤ K1 ∧ K ≤ K1 ∧ (K1 = K ∨ K1 = ncap K (l.length + m.length) ∧ K < l.length + m.length)) (a3 : ∀ j, j < l.length → g j = l.getD j 0) (q4 : ∀ j, j < l.length → g1 j = g j) (q5 : ∀ i, i < m.length → g1 (l.length + i) = m.getD i 0) (q6 : ∀ j, j < K1 → g1 j < 128) (q7 : (v1 = v ∧ zz = z) ∨ (v1 = z ∧ zz = z + 1)) : xSB F1 lo zz b (l ++ m) := by
  have hK : K1 ≤ 450 := by
    rcases q3.2.2 with e | ⟨e, e2⟩
    · omega
    · have := ncap_b e2
      omega
  refine ⟨v1, K1, g1, by omega, by rw [List.length_append]; exact q1, q2, by rw [List.length_append]; omega, fun j hj => ?_, q6⟩
  rw [List.length_append] at hj
  by_cases h : j < l.length
  · rw [q4 j h, a3 j h, ls_l h]
  · obtain ⟨i, rfl⟩ : ∃ i, j = l.length + i := ⟨j - l.length, by omega⟩
    rw [q5 i (by omega), ls_r]
theorem c_StringBuilder_initL {P : xP} {F : xF} {z : Nat} {b : Nat} {fo : Nat} (hb : F (b) = some (.inl (10, [.null, .int (nI 0), .int (nI 0), .int (nI 0)]))) (hJ : xJd P fo) (hbz : b + 1 = z) : xM P xy_StringBuilder_init [.ref b] F (z) 1 16 (fun r9 F9 z9 => r9 = none ∧ z9 = z + 1 ∧ xSB F9 (b) (z + 1) (b) ([]) ∧ (∀ a9 : Nat, (a9 < b) → F9 a9 = F a9)) := by
  refine xM_post (c_StringBuilder_init (hb := hb) (hJ := hJ) (hbz := by omega)) fun r F1 z1 hp => ?_
  obtain ⟨rfl, rfl, q1, q2, q3⟩ := hp
  exact ⟨rfl, rfl, ⟨z, 16, fun _ => 0, by omega, q1, q2, by decide, fun j hj => absurd hj (by simp), fun j _ => by show 0 < 128; omega⟩, fun a9 h => q3 a9 (by omega) (by omega)⟩
theorem c_StringBuilder_append_CL {P : xP} {F : xF} {z : Nat} {lo : Nat} {b : Nat} {l : List Nat} {fo : Nat} {x : Nat} (hb : xSB F (lo) (z) (b) (l)) (hJ : xJd P fo) (hx : x < 128) (hl : l.length + 1 ≤ 200) : xM P xy_StringBuilder_append_C [.ref b, .int (nI (x))] F (z) 1 1000 (fun r9 F9 z9 => ∃ zz : Nat, r9 = some (.ref b) ∧ z9 = zz ∧ xSB F9 (lo) (zz) (b) (l ++ [x]) ∧ (z ≤ zz ∧ zz ≤ z + 1) ∧ (∀ a9 : Nat, (a9 < lo) → F9 a9 = F a9)) := by
  obtain ⟨v, K, g, a1, h6, h7, a2, a3, a4⟩ := hb
  refine xM_post (c_StringBuilder_append_C (hb := h6) (hv := h7) (hJ := hJ) (h1 := by omega) (hg := a4) (hbv := by omega) (hx := hx)) fun r F1 z1 hp => ?_
  obtain ⟨v1, K1, g1, zz, rfl, rfl, q1, q2, ⟨q3, q4, q5, q6⟩, q7, q8⟩ := hp
  have p3 := xSB_app (m := [x]) a1 q1 q2 ⟨a2.1, a2.2.1, hl⟩ q3 a3 q4 (fun i hi => by have : i = 0 := (by simp at hi; omega); subst this; exact q5) q6 q7
  exact ⟨_, rfl, rfl, p3, by omega, fun a9 h => q8 a9 (by omega) (by omega) (by omega)⟩
theorem c_StringBuilder_append_IL {P : xP} {F : xF} {z : Nat} {lo : Nat} {b : Nat} {l : List Nat} {fo : Nat} {x : Nat} {o1 : Nat} {o2 : Nat} (hb : xSB F (lo) (z) (b) (l)) (hJ : xJd P fo) (hD : xDg P o1 o2) (hx : x < 1000) (hl : l.length + 3 ≤ 200) : xM P xy_StringBuilder_append_I [.ref b, .int (nI (x))] F (z) 1 1000 (fun r9 F9 z9 => ∃ zz : Nat, r9 = some (.ref b) ∧ z9 = zz ∧ xSB F9 (lo) (zz) (b) (l ++ dgl x) ∧ (z ≤ zz ∧ zz ≤ z + 1) ∧ (∀ a9 : Nat, (a9 < lo) → F9 a9 = F a9)) := by
  obtain ⟨v, K, g, a1, h6, h7, a2, a3, a4⟩ := hb
  have hdb := dgs_b x
  have hdl := dgl_len x
  refine xM_post (c_StringBuilder_append_I (hb := h6) (hv := h7) (hJ := hJ) (hD := hD) (h1 := by omega) (hg := a4) (hbv := by omega) (hx := hx)) fun r F1 z1 hp => ?_
  obtain ⟨v1, K1, g1, zz, rfl, rfl, q1, q2, ⟨q3, q4, q5, q6⟩, q7, q8⟩ := hp
  rw [← hdl] at q1 q3
  have p3 := xSB_app (m := dgl x) a1 q1 q2 ⟨a2.1, a2.2.1, by omega⟩ q3 a3 q4 (fun i hi => by rw [hdl] at hi; rw [q5 i hi, dgl_at hi]) q6 q7
  exact ⟨_, rfl, rfl, p3, by omega, fun a9 h => q8 a9 (by omega) (by omega) (by omega)⟩
theorem c_StringBuilder_append_StringL {P : xP} {F : xF} {z : Nat} {lo : Nat} {b : Nat} {l : List Nat} {fo : Nat} {s : Nat} {m : List Nat} (hb : xSB F (lo) (z) (b) (l)) (hs : xTs F (s) (m)) (hJ : xJd P fo) (hl : l.length + m.length ≤ 200) (hsl : s + 2 ≤ lo) : xM P xy_StringBuilder_append_String [.ref b, .ref s] F (z) 1 1000 (fun r9 F9 z9 => ∃ zz : Nat, r9 = some (.ref b) ∧ z9 = zz ∧ xSB F9 (lo) (zz) (b) (l ++ m) ∧ (z ≤ zz ∧ zz ≤ z + 1) ∧ (∀ a9 : Nat, (a9 < lo) → F9 a9 = F a9)) := by
  obtain ⟨v, K, g, a1, h6, h7, a2, a3, a4⟩ := hb
  obtain ⟨u, s1, s2, s3, s4, s5⟩ := hs
  refine xM_post (c_StringBuilder_append_StringJ (hb := h6) (hv := h7) (hs := s1) (hw := s2) (hJ := hJ) (h1 := by omega) (hg := a4) (hbv := by omega) (hu := fun j hj => by rw [s3 j hj]; exact s4 j hj) (hsv := by omega)) fun r F1 z1 hp => ?_
  obtain ⟨v1, K1, g1, zz, rfl, rfl, q1, q2, ⟨q3, q4, q5, q6⟩, q7, q8⟩ := hp
  have p3 := xSB_app (m := m) a1 q1 q2 ⟨a2.1, a2.2.1, hl⟩ q3 a3 q4 (fun i hi => by rw [q5 i hi, s3 i hi]) q6 q7
  exact ⟨_, rfl, rfl, p3, by omega, fun a9 h => q8 a9 (by omega) (by omega) (by omega)⟩
theorem c_StringBuilder_append_StringLO {P : xP} {F : xF} {z : Nat} {lo : Nat} {b : Nat} {l : List Nat} {fo : Nat} {s : Nat} {m : List Nat} (hb : xSB F (lo) (z) (b) (l)) (hJ : xJd P fo) (hO : xSo P s m) (hl : l.length + m.length ≤ 200) : xM P xy_StringBuilder_append_String [.ref b, .ref s] F (z) 1 1000 (fun r9 F9 z9 => ∃ zz : Nat, r9 = some (.ref b) ∧ z9 = zz ∧ xSB F9 (lo) (zz) (b) (l ++ m) ∧ (z ≤ zz ∧ zz ≤ z + 1) ∧ (∀ a9 : Nat, (a9 < lo) → F9 a9 = F a9)) := by
  obtain ⟨v, K, g, a1, h6, h7, a2, a3, a4⟩ := hb
  obtain ⟨vb, fo2, u, hS, s3⟩ := hO
  refine xM_post (c_StringBuilder_append_StringO (hb := h6) (hv := h7) (hS := hS) (h1 := by omega) (hg := a4) (hbv := by omega)) fun r F1 z1 hp => ?_
  obtain ⟨v1, K1, g1, zz, rfl, rfl, q1, q2, ⟨q3, q4, q5, q6⟩, q7, q8⟩ := hp
  have p3 := xSB_app (m := m) a1 q1 q2 ⟨a2.1, a2.2.1, hl⟩ q3 a3 q4 (fun i hi => by rw [q5 i hi, s3 i hi]) q6 q7
  exact ⟨_, rfl, rfl, p3, by omega, fun a9 h => q8 a9 (by omega) (by omega) (by omega)⟩
/-- a text, of the run or of the start -/
def xTe (P : xP) (F : xF) (s : Nat) (l : List Nat) : Prop := xTs F s l ∨ xSo P s l
theorem c_StringBuilder_append_StringLT {P : xP} {F : xF} {z : Nat} {lo : Nat} {b : Nat} {l : List Nat} {fo : Nat} {s : Nat} {m : List Nat} (hb : xSB F (lo) (z) (b) (l)) (hJ : xJd P fo) (hT : (xTs F s m ∧ s + 2 ≤ lo) ∨ xSo P s m) (hl : l.length + m.length ≤ 200) : xM P xy_StringBuilder_append_String [.ref b, .ref s] F (z) 1 1000 (fun r9 F9 z9 => ∃ zz : Nat, r9 = some (.ref b) ∧ z9 = zz ∧ xSB F9 (lo) (zz) (b) (l ++ m) ∧ (z ≤ zz ∧ zz ≤ z + 1) ∧ (∀ a9 : Nat, (a9 < lo) → F9 a9 = F a9)) := by
  rcases hT with ⟨h, h2⟩ | h
  · exact c_StringBuilder_append_StringL (hb := hb) (hs := h) (hJ := hJ) (hl := hl) (hsl := h2)
  · exact c_StringBuilder_append_StringLO (hb := hb) (hO := h) (hJ := hJ) (hl := hl)
theorem c_StringBuilder_toStringL {P : xP} {F : xF} {z : Nat} {lo : Nat} {b : Nat} {l : List Nat} {fo : Nat} (hb : xSB F (lo) (z) (b) (l)) (hJ : xJd P fo) : xM P xy_StringBuilder_toString [.ref b] F (z) 2 460 (fun r9 F9 z9 => r9 = some (.ref z) ∧ z9 = z + 2 ∧ xTs F9 (z) (l) ∧ (∀ a9 : Nat, (a9 < z) → F9 a9 = F a9)) := by
  obtain ⟨v, K, g, a1, h6, h7, a2, a3, a4⟩ := hb
  refine xM_post (c_StringBuilder_toString (hb := h6) (hv := h7) (hJ := hJ) (h1 := by omega) (hg := a4) (hvz := by omega)) fun r F1 z1 hp => ?_
  obtain ⟨g1, rfl, rfl, q1, q2, q3, q4⟩ := hp
  exact ⟨rfl, rfl, ⟨g1, q1, q2, fun j hj => by rw [q3 j hj, a3 j hj], fun j hj => by rw [← a3 j hj]; exact a4 j (by omega), a2.2.2⟩, fun a9 h => q4 a9 (by omega)⟩
theorem c_String_lengthL {P : xP} {F : xF} {z : Nat} {s : Nat} {l : List Nat} {fo : Nat} (hs : xTs F (s) (l)) (hJ : xJd P fo) : xM P xy_String_length [.ref s] F (z) 0 0 (fun r9 F9 z9 => r9 = some (.int (nI (l.length))) ∧ F9 = F ∧ z9 = z) := by
  obtain ⟨u, s1, s2, s3, s4, s5⟩ := hs
  exact c_String_lengthJ (hs := s1) (hw := s2) (hJ := hJ) (hn := by omega)
theorem c_String_charAtL {P : xP} {F : xF} {z : Nat} {s : Nat} {l : List Nat} {fo : Nat} {i : Nat} (hs : xTs F (s) (l)) (hJ : xJd P fo) (hi : i < l.length) : xM P xy_String_charAt [.ref s, .int (nI (i))] F (z) 0 0 (fun r9 F9 z9 => r9 = some (.int (nI (l.getD i 0))) ∧ F9 = F ∧ z9 = z) := by
  obtain ⟨u, s1, s2, s3, s4, s5⟩ := hs
  rw [← s3 i hi]
  exact c_String_charAtJ (hs := s1) (hw := s2) (hJ := hJ) (hi := hi) (hn := by omega) (hu := by rw [s3 i hi]; exact s4 i hi)
/-- m begins l -/
abbrev lpre (m l : List Nat) : Prop := m.length ≤ l.length ∧ eqTo (fun j => l.getD j 0) (fun j => m.getD j 0) m.length = true
theorem eqTo_ext {u u2 y y2 : Nat → Nat} : ∀ n, (∀ j, j < n → u j = u2 j) → (∀ j, j < n → y j = y2 j) → eqTo u y n = eqTo u2 y2 n
  | 0, _, _ => rfl
  | n + 1, h1, h2 => by
    rw [eqTo, eqTo, eqTo_ext n (fun j hj => h1 j (by omega)) (fun j hj => h2 j (by omega)), h1 n (by omega), h2 n (by omega)]
theorem c_String_startsWith_StringL {P : xP} {F : xF} {z : Nat} {s : Nat} {l : List Nat} {s2 : Nat} {m : List Nat} {fo : Nat} (hs : xTs F (s) (l)) (hs2 : xTs F (s2) (m)) (hJ : xJd P fo) (h7 : l.length ≤ 7 ∧ m.length ≤ 7) : xM P xy_String_startsWith_String [.ref s, .ref s2] F (z) 0 0 (fun r9 F9 z9 => r9 = some (.int (xb (lpre m l))) ∧ F9 = F ∧ z9 = z) := by
  obtain ⟨u, s1, s2, s3, s4, s5⟩ := hs
  obtain ⟨y, t1, t2, t3, t4, t5⟩ := hs2
  refine xM_post (c_String_startsWith_String (hs := s1) (hw := s2) (hs2 := t1) (hy := t2) (hJ := hJ) (h1 := h7) (hu := fun j hj => by rw [s3 j hj]; exact s4 j hj) (hy2 := fun j hj => by rw [t3 j hj]; exact t4 j hj)) fun r F1 z1 hp => ?_
  obtain ⟨rfl, rfl, rfl⟩ := hp
  refine ⟨congrArg (fun q => some (Value.int q)) (xb_c (and_congr_right fun h => ?_)), rfl, rfl⟩
  rw [eqTo_ext (u2 := fun j => l.getD j 0) (y2 := fun j => m.getD j 0) m.length (fun j hj => s3 j (by omega)) (fun j hj => t3 j hj)]
