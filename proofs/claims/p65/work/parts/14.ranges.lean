/-! ranges -/
/-- sv holds the first k weights in their order -/
def srtN (w sv : Nat → Nat) (k : Nat) : Prop := (∀ i, ∀ j, i < j → j < k → sv i ≤ sv j) ∧ ∃ π : Nat → Nat, (∀ i, i < k → π i < k) ∧ (∀ i, i < k → ∀ j, j < k → π i = π j → i = j) ∧ ∀ i, i < k → sv i = w (π i)
theorem srtN_0 (w sv : Nat → Nat) : srtN w sv 0 := ⟨fun i j _ h => absurd h (by omega), fun i => i, fun i h => absurd h (by omega), fun i h => absurd h (by omega), fun i h => absurd h (by omega)⟩
theorem srtN_step {w f g : Nat → Nat} {s p : Nat} (h : srtN w f s) (hp : p ≤ s) (h1 : ∀ j, j < p → g j = f j) (h2 : ∀ j, p < j → j ≤ s → g j = f (j - 1)) (h3 : ∀ j, p ≤ j → j < s → w s ≤ f j) (h4 : ∀ j, j < p → f j ≤ w s) : srtN w (updN g p (w s)) (s + 1) := by
  obtain ⟨hs, π, q1, q2, q3⟩ := h
  have e : ∀ j, j ≤ s → updN g p (w s) j = if j < p then f j else if j = p then w s else f (j - 1) := by
    intro j hj
    by_cases c1 : j < p
    · rw [if_pos c1, updN_ne (by omega)]
      exact h1 j c1
    · rw [if_neg c1]
      by_cases c2 : j = p
      · rw [if_pos c2, c2, updN_eq]
      · rw [if_neg c2, updN_ne c2]
        exact h2 j (by omega) hj
  refine ⟨fun i j hij hj => ?_, fun i => if i < p then π i else if i = p then s else π (i - 1), fun i hi => ?_, fun i hi j hj hh => ?_, fun i hi => ?_⟩
  · rw [e i (by omega), e j (by omega)]
    by_cases c1 : j < p
    · rw [if_pos c1, if_pos (by omega)]
      exact hs i j hij (by omega)
    · rw [if_neg c1]
      by_cases c2 : j = p
      · rw [if_pos c2, if_pos (by omega)]
        exact h4 i (by omega)
      · rw [if_neg c2]
        by_cases c3 : i < p
        · rw [if_pos c3]
          have a1 := h4 i c3
          have a2 := h3 (j - 1) (by omega) (by omega)
          omega
        · rw [if_neg c3]
          by_cases c4 : i = p
          · rw [if_pos c4]
            exact h3 (j - 1) (by omega) (by omega)
          · rw [if_neg c4]
            exact hs (i - 1) (j - 1) (by omega) (by omega)
  · show (if i < p then π i else if i = p then s else π (i - 1)) < s + 1
    by_cases c1 : i < p
    · rw [if_pos c1]; have := q1 i (by omega); omega
    · rw [if_neg c1]
      by_cases c2 : i = p
      · rw [if_pos c2]; omega
      · rw [if_neg c2]; have := q1 (i - 1) (by omega); omega
  · have k1 : ∀ i, i < p → π i < s := fun i hi => q1 i (by omega)
    have hh : (if i < p then π i else if i = p then s else π (i - 1)) = (if j < p then π j else if j = p then s else π (j - 1)) := hh
    by_cases c1 : i < p
    · rw [if_pos c1] at hh
      have b1 := q1 i (by omega)
      by_cases c2 : j < p
      · rw [if_pos c2] at hh
        exact q2 i (by omega) j (by omega) hh
      · rw [if_neg c2] at hh
        by_cases c3 : j = p
        · rw [if_pos c3] at hh; omega
        · rw [if_neg c3] at hh
          have := q2 i (by omega) (j - 1) (by omega) hh
          omega
    · rw [if_neg c1] at hh
      by_cases c0 : i = p
      · rw [if_pos c0] at hh
        by_cases c2 : j < p
        · rw [if_pos c2] at hh; have := q1 j (by omega); omega
        · rw [if_neg c2] at hh
          by_cases c3 : j = p
          · omega
          · rw [if_neg c3] at hh; have := q1 (j - 1) (by omega); omega
      · rw [if_neg c0] at hh
        by_cases c2 : j < p
        · rw [if_pos c2] at hh
          have := q2 (i - 1) (by omega) j (by omega) hh
          omega
        · rw [if_neg c2] at hh
          by_cases c3 : j = p
          · rw [if_pos c3] at hh; have := q1 (i - 1) (by omega); omega
          · rw [if_neg c3] at hh
            have := q2 (i - 1) (by omega) (j - 1) (by omega) hh
            omega
  · rw [e i (by omega)]
    show _ = w (if i < p then π i else if i = p then s else π (i - 1))
    by_cases c1 : i < p
    · rw [if_pos c1, if_pos c1]; exact q3 i (by omega)
    · rw [if_neg c1, if_neg c1]
      by_cases c2 : i = p
      · rw [if_pos c2, if_pos c2]
      · rw [if_neg c2, if_neg c2]; exact q3 (i - 1) (by omega)
theorem srtN_bd {w sv : Nat → Nat} {k b : Nat} (h : srtN w sv k) (hw : ∀ j, j < k → w j ≤ b) {i : Nat} (hi : i < k) : sv i ≤ b := by
  obtain ⟨_, π, q1, _, q3⟩ := h
  rw [q3 i hi]
  exact hw _ (q1 i hi)
def rgM (l : Nat → Nat → Nat) (i j : Nat) : Nat → Nat
  | 0 => 1073741824
  | c + 1 => if l i (i + c) + l (i + c + 1) j < rgM l i j c then l i (i + c) + l (i + c + 1) j else rgM l i j c
def rgS (sv : Nat → Nat) (i j : Nat) : Nat → Nat
  | 0 => sv j
  | c + 1 => rgS sv i j c + sv (i + c)
def rgK (sv : Nat → Nat) (l : Nat → Nat → Nat) (i j : Nat) : Prop := l i j = rgM l i j (j - i) + rgS sv i j (j - i)
def upd2 (l : Nat → Nat → Nat) (a b x : Nat) : Nat → Nat → Nat := fun i j => if i = a ∧ j = b then x else l i j
theorem upd2_eq {l : Nat → Nat → Nat} {a b x : Nat} : upd2 l a b x a b = x := if_pos ⟨rfl, rfl⟩
theorem upd2_ne {l : Nat → Nat → Nat} {a b x i j : Nat} (h : ¬ (i = a ∧ j = b)) : upd2 l a b x i j = l i j := if_neg h
theorem rgM_ext {l l2 : Nat → Nat → Nat} {i j : Nat} : ∀ c, (∀ d, d < c → l i (i + d) = l2 i (i + d) ∧ l (i + d + 1) j = l2 (i + d + 1) j) → rgM l i j c = rgM l2 i j c
  | 0, _ => rfl
  | c + 1, h => by
    unfold rgM
    rw [rgM_ext c (fun d hd => h d (by omega)), (h c (by omega)).1, (h c (by omega)).2]
theorem rgM_le (l : Nat → Nat → Nat) (i j : Nat) : ∀ c, rgM l i j c ≤ 1073741824
  | 0 => Nat.le_refl _
  | c + 1 => by
    have h := rgM_le l i j c
    unfold rgM
    split <;> omega
theorem rgM_le1 (l : Nat → Nat → Nat) (i j : Nat) {d : Nat} : ∀ c, d < c → rgM l i j c ≤ l i (i + d) + l (i + d + 1) j
  | 0, h => absurd h (by omega)
  | c + 1, h => by
    unfold rgM
    by_cases e : d = c
    · subst e
      split <;> omega
    · have := rgM_le1 l i j (d := d) c (by omega)
      split <;> omega
theorem rgS_le {sv : Nat → Nat} {i j b : Nat} (hj : sv j ≤ b) : ∀ c, (∀ d, d < c → sv (i + d) ≤ b) → rgS sv i j c ≤ b * (c + 1)
  | 0, _ => by unfold rgS; omega
  | c + 1, h => by
    have h1 := rgS_le hj c (fun d hd => h d (by omega))
    have h2 := h c (by omega)
    unfold rgS
    rw [Nat.mul_add b (c + 1) 1]
    omega
theorem rgK_up {sv : Nat → Nat} {l : Nat → Nat → Nat} {a b x i j : Nat} (h : rgK sv l i j) (hab : a < b) (hne : ¬ (i = a ∧ j = b)) (hs : j - i ≤ b - a) (hij : i < j) : rgK sv (upd2 l a b x) i j := by
  unfold rgK
  rw [upd2_ne hne, rgM_ext (l2 := l) (j - i) (fun d hd => ⟨upd2_ne (by omega), upd2_ne (by omega)⟩)]
  exact h
theorem rgK_bd {sv : Nat → Nat} {l : Nat → Nat → Nat} (hsv : ∀ j, j < 8 → sv j ≤ 99) (h0 : ∀ i, i < 8 → l i i = 0) : ∀ c i, i + c < 8 → (∀ d, 0 < d → d ≤ c → ∀ i, i + d < 8 → rgK sv l i (i + d)) → l i (i + c) ≤ 800 * c
  | 0, i, h, _ => by rw [show i + 0 = i by omega, h0 i (by omega)]; omega
  | c + 1, i, h, hk => by
    have h1 := hk (c + 1) (by omega) (Nat.le_refl _) i h
    unfold rgK at h1
    rw [show i + (c + 1) - i = c + 1 by omega] at h1
    have h2 := rgM_le1 l i (i + (c + 1)) (d := 0) (c + 1) (by omega)
    have h3 := rgS_le (sv := sv) (i := i) (j := i + (c + 1)) (b := 99) (hsv _ (by omega)) (c + 1) (fun d hd => hsv _ (by omega))
    have h4 := rgK_bd hsv h0 c (i + 1) (by omega) (fun d hd hd2 i hi => hk d hd (by omega) i hi)
    rw [show i + 0 = i by omega, h0 i (by omega), show i + 1 + c = i + (c + 1) by omega] at *
    omega
/-- the rows of the table behind g -/
def xRl (F : xF) (g : Nat) (l : Nat → Nat → Nat) : Prop := ∀ i, i < 8 → F (g + 3 + i) = some (.inr (0, 8, fun b9 => .int (nI (l i b9))))
theorem xRl_fr {F F1 : xF} {g : Nat} {l : Nat → Nat → Nat} (h : xRl F g l) (hf : ∀ a, g + 3 ≤ a → a < g + 3 + 8 → F1 a = F a) : xRl F1 g l := fun i hi => (hf _ (by omega) (by omega)).trans (h i hi)
def xRg (F : xF) (g : Nat) : Prop := F g = some (.inl (6, [.ref (g + 1), .ref (g + 2)])) ∧ (∃ sv : Nat → Nat, F (g + 1) = some (.inr (0, 8, fun b9 => .int (nI (sv b9))))) ∧ (∃ f : Nat → Value, F (g + 2) = some (.inr (7, 8, f)) ∧ ∀ i, i < 8 → f i = .ref (g + 3 + i)) ∧ ∃ l : Nat → Nat → Nat, xRl F g l ∧ ∀ i, i < 8 → l i i = 0
theorem xRg_fr {F F1 : xF} {g : Nat} (h : xRg F g) (hf : ∀ a, g ≤ a → a < g + 11 → F1 a = F a) : xRg F1 g := by
  obtain ⟨h0, ⟨sv, h1⟩, ⟨f, h2, h3⟩, l, h4, h5⟩ := h
  exact ⟨(hf _ (by omega) (by omega)).trans h0, ⟨sv, (hf _ (by omega) (by omega)).trans h1⟩, ⟨f, (hf _ (by omega) (by omega)).trans h2, h3⟩, l, xRl_fr h4 (fun a q1 q2 => hf a (by omega) (by omega)), h5⟩

theorem d_Ranges_sort_0 : decode prog_10_method_3_code 0 = .ok (.iconst 0, 1) := by decide +kernel
theorem d_Ranges_sort_1 : decode prog_10_method_3_code 1 = .ok (.istore_n 2, 1) := by decide +kernel
theorem d_Ranges_sort_2 : decode prog_10_method_3_code 2 = .ok (.iload_n 2, 1) := by decide +kernel
theorem d_Ranges_sort_3 : decode prog_10_method_3_code 3 = .ok (.bipush 8, 2) := by decide +kernel
theorem d_Ranges_sort_5 : decode prog_10_method_3_code 5 = .ok (.if_icmp .ge 64, 3) := by decide +kernel
theorem d_Ranges_sort_8 : decode prog_10_method_3_code 8 = .ok (.iload_n 2, 1) := by decide +kernel
theorem d_Ranges_sort_9 : decode prog_10_method_3_code 9 = .ok (.aload_n 1, 1) := by decide +kernel
theorem d_Ranges_sort_10 : decode prog_10_method_3_code 10 = .ok (.arraylength, 1) := by decide +kernel
theorem d_Ranges_sort_11 : decode prog_10_method_3_code 11 = .ok (.if_icmp .ge 58, 3) := by decide +kernel
theorem d_Ranges_sort_14 : decode prog_10_method_3_code 14 = .ok (.iload_n 2, 1) := by decide +kernel
theorem d_Ranges_sort_15 : decode prog_10_method_3_code 15 = .ok (.istore_n 3, 1) := by decide +kernel
theorem d_Ranges_sort_16 : decode prog_10_method_3_code 16 = .ok (.iload_n 3, 1) := by decide +kernel
theorem d_Ranges_sort_17 : decode prog_10_method_3_code 17 = .ok (.ifCond .le 37, 3) := by decide +kernel
theorem d_Ranges_sort_20 : decode prog_10_method_3_code 20 = .ok (.aload_n 0, 1) := by decide +kernel
theorem d_Ranges_sort_21 : decode prog_10_method_3_code 21 = .ok (.getfield 9, 3) := by decide +kernel
theorem d_Ranges_sort_24 : decode prog_10_method_3_code 24 = .ok (.iload_n 3, 1) := by decide +kernel
theorem d_Ranges_sort_25 : decode prog_10_method_3_code 25 = .ok (.iconst 1, 1) := by decide +kernel
theorem d_Ranges_sort_26 : decode prog_10_method_3_code 26 = .ok (.isub, 1) := by decide +kernel
theorem d_Ranges_sort_27 : decode prog_10_method_3_code 27 = .ok (.iaload, 1) := by decide +kernel
theorem d_Ranges_sort_28 : decode prog_10_method_3_code 28 = .ok (.aload_n 1, 1) := by decide +kernel
theorem d_Ranges_sort_29 : decode prog_10_method_3_code 29 = .ok (.iload_n 2, 1) := by decide +kernel
theorem d_Ranges_sort_30 : decode prog_10_method_3_code 30 = .ok (.iaload, 1) := by decide +kernel
theorem d_Ranges_sort_31 : decode prog_10_method_3_code 31 = .ok (.if_icmp .le 23, 3) := by decide +kernel
theorem d_Ranges_sort_34 : decode prog_10_method_3_code 34 = .ok (.aload_n 0, 1) := by decide +kernel
theorem d_Ranges_sort_35 : decode prog_10_method_3_code 35 = .ok (.getfield 9, 3) := by decide +kernel
theorem d_Ranges_sort_38 : decode prog_10_method_3_code 38 = .ok (.iload_n 3, 1) := by decide +kernel
theorem d_Ranges_sort_39 : decode prog_10_method_3_code 39 = .ok (.aload_n 0, 1) := by decide +kernel
theorem d_Ranges_sort_40 : decode prog_10_method_3_code 40 = .ok (.getfield 9, 3) := by decide +kernel
theorem d_Ranges_sort_43 : decode prog_10_method_3_code 43 = .ok (.iload_n 3, 1) := by decide +kernel
theorem d_Ranges_sort_44 : decode prog_10_method_3_code 44 = .ok (.iconst 1, 1) := by decide +kernel
theorem d_Ranges_sort_45 : decode prog_10_method_3_code 45 = .ok (.isub, 1) := by decide +kernel
theorem d_Ranges_sort_46 : decode prog_10_method_3_code 46 = .ok (.iaload, 1) := by decide +kernel
theorem d_Ranges_sort_47 : decode prog_10_method_3_code 47 = .ok (.iastore, 1) := by decide +kernel
theorem d_Ranges_sort_48 : decode prog_10_method_3_code 48 = .ok (.iinc 3 (-1), 3) := by decide +kernel
theorem d_Ranges_sort_51 : decode prog_10_method_3_code 51 = .ok (.goto (-35), 3) := by decide +kernel
theorem d_Ranges_sort_54 : decode prog_10_method_3_code 54 = .ok (.aload_n 0, 1) := by decide +kernel
theorem d_Ranges_sort_55 : decode prog_10_method_3_code 55 = .ok (.getfield 9, 3) := by decide +kernel
theorem d_Ranges_sort_58 : decode prog_10_method_3_code 58 = .ok (.iload_n 3, 1) := by decide +kernel
theorem d_Ranges_sort_59 : decode prog_10_method_3_code 59 = .ok (.aload_n 1, 1) := by decide +kernel
theorem d_Ranges_sort_60 : decode prog_10_method_3_code 60 = .ok (.iload_n 2, 1) := by decide +kernel
theorem d_Ranges_sort_61 : decode prog_10_method_3_code 61 = .ok (.iaload, 1) := by decide +kernel
theorem d_Ranges_sort_62 : decode prog_10_method_3_code 62 = .ok (.iastore, 1) := by decide +kernel
theorem d_Ranges_sort_63 : decode prog_10_method_3_code 63 = .ok (.iinc 2 1, 3) := by decide +kernel
theorem d_Ranges_sort_66 : decode prog_10_method_3_code 66 = .ok (.goto (-64), 3) := by decide +kernel
theorem d_Ranges_sort_69 : decode prog_10_method_3_code 69 = .ok (.return_, 1) := by decide +kernel
set_option maxHeartbeats 4000000 in
set_option maxRecDepth 20000 in
theorem c_Ranges_sort {P : xP} {F : xF} {z : Nat} {g : Nat} {sv : Nat → Nat} {a : Nat} {w : Nat → Nat} (h0 : F (g) = some (.inl (6, [.ref (g + 1), .ref (g + 2)]))) (h1 : F (g + 1) = some (.inr (0, 8, fun b9 => .int (nI (sv b9))))) (hw : F (a) = some (.inr (0, 8, fun b9 => .int (nI (w b9))))) (hw9 : ∀ j, j < 8 → w j ≤ 99) (hd : a < g ∨ g + 11 ≤ a) : xM P xy_Ranges_sort [.ref g, .ref a] F (z) 0 0 (fun r9 F9 z9 => ∃ sv1 : Nat → Nat, r9 = none ∧ z9 = z ∧ F9 (g) = some (.inl (6, [.ref (g + 1), .ref (g + 2)])) ∧ F9 (g + 1) = some (.inr (0, 8, fun b9 => .int (nI (sv1 b9)))) ∧ F9 (a) = some (.inr (0, 8, fun b9 => .int (nI (w b9)))) ∧ (srtN w sv1 8) ∧ (∀ a9 : Nat, (a9 < g + 1 ∨ g + 1 + 1 ≤ a9) → F9 a9 = F a9)) := by
  refine xM_v rfl (Nat.le_of_ble_eq_true rfl) (L0 := [some (.ref g), some (.ref a), none, none]) rfl rfl fun Θ hC hin hret => ?_
  have hag : ∀ a9 : Nat, (a9 < g + 1 ∨ g + 1 + 1 ≤ a9) → F a9 = F a9 := fun a9 _ => rfl
  refine x_iconst hC d_Ranges_sort_0 (v := nI 0) (by decide) ?_
  refine x_istore_n hC d_Ranges_sort_1 rfl (Nat.le_of_ble_eq_true rfl) (L1 := [some (.ref g), some (.ref a), some (.int (nI 0)), none]) rfl ?_
  have loop_2 : ∀ (m9 : Nat) (Fh2 : xF) (s : Nat) (s1 : Nat → Nat), (Fh2 (g) = some (.inl (6, [.ref (g + 1), .ref (g + 2)]))) → (Fh2 (g + 1) = some (.inr (0, 8, fun b9 => .int (nI (s1 b9))))) → (Fh2 (a) = some (.inr (0, 8, fun b9 => .int (nI (w b9))))) → (∀ a9 : Nat, (a9 < g + 1 ∨ g + 1 + 1 ≤ a9) → Fh2 a9 = F a9) → (s ≤ 8) → (srtN w s1 s) → (8 - s < m9) → xX P Θ 2 [some (.ref g), some (.ref a), some (.int (nI (s))), none] [] Fh2 (z) 0 0 := by
    intro m9
    induction m9 with
    | zero => intros; omega
    | succ m9 ih_2 =>
      intro Fh2 s s1 h0 h1 hw hag hs ks hm_2
      refine x_iload_n hC d_Ranges_sort_2 rfl rfl ?_
      refine x_bipush hC d_Ranges_sort_3 (v := nI 8) (by decide) ?_
      refine x_icmpN_ge hC d_Ranges_sort_5 (tgt := 69) (by decide) (by omega) (by omega) (fun c_5 => ?_) (fun c_5 => ?_)
      · skip
        exact hret _ _ _ _ _ _ d_Ranges_sort_69 (by decide) (by decide) (⟨s1, rfl, rfl, h0, h1, hw, by rw [← show s = 8 by omega]; exact ks, hag⟩)
      · skip
        refine x_iload_n hC d_Ranges_sort_8 rfl rfl ?_
        refine x_aload_n hC d_Ranges_sort_9 rfl rfl ?_
        refine x_alen hC hw (by decide) rfl d_Ranges_sort_10 ?_
        refine x_icmpN_ge hC d_Ranges_sort_11 (tgt := 69) (by decide) (by omega) (by omega) (fun c_11 => ?_) (fun c_11 => ?_)
        · skip
          exact absurd c_11 (by omega)
        · skip
          refine x_iload_n hC d_Ranges_sort_14 rfl rfl ?_
          refine x_istore_n hC d_Ranges_sort_15 rfl (Nat.le_of_ble_eq_true rfl) (L1 := [some (.ref g), some (.ref a), some (.int (nI (s))), some (.int (nI (s)))]) rfl ?_
          have loop_16 : ∀ (m9 : Nat) (Fh16 : xF) (p : Nat) (s2 : Nat → Nat), (Fh16 (g) = some (.inl (6, [.ref (g + 1), .ref (g + 2)]))) → (Fh16 (g + 1) = some (.inr (0, 8, fun b9 => .int (nI (s2 b9))))) → (Fh16 (a) = some (.inr (0, 8, fun b9 => .int (nI (w b9))))) → (∀ a9 : Nat, (a9 < g + 1 ∨ g + 1 + 1 ≤ a9) → Fh16 a9 = F a9) → (p ≤ s ∧ p ≤ 8) → (∀ j, j < p → s2 j = s1 j) → (∀ j, p < j → j ≤ s → s2 j = s1 (j - 1)) → (∀ j, p ≤ j → j < s → w s ≤ s1 j) → (p < m9) → xX P Θ 16 [some (.ref g), some (.ref a), some (.int (nI (s))), some (.int (nI (p)))] [] Fh16 (z) 0 0 := by
            intro m9
            induction m9 with
            | zero => intros; omega
            | succ m9 ih_16 =>
              intro Fh16 p s2 h0 h1 hw hag hp kl kr kg hm_16
              refine x_iload_n hC d_Ranges_sort_16 rfl rfl ?_
              refine x_ifN_le hC d_Ranges_sort_17 (tgt := 54) (by decide) (by omega) (fun c_17 => ?_) (fun c_17 => ?_)
              · skip
                refine x_aload_n hC d_Ranges_sort_54 rfl rfl ?_
                refine x_getf hC kf_Ranges_9 h0 rfl d_Ranges_sort_55 ?_
                refine x_iload_n hC d_Ranges_sort_58 rfl rfl ?_
                refine x_aload_n hC d_Ranges_sort_59 rfl rfl ?_
                refine x_iload_n hC d_Ranges_sort_60 rfl rfl ?_
                have hx4 : ∀ j, j < p → s1 j ≤ w s := fun j hj => by first | exact absurd hj (by omega) | exact Nat.le_trans (by rcases Nat.lt_or_ge j (p - 1) with q | q; exact ks.1 j (p - 1) q (by omega); rw [show j = p - 1 by omega]; exact Nat.le_refl _) (by rw [← hs2]; exact c_31)
                have hks := srtN_step ks hp.1 kl kr kg hx4
                refine x_iald hC hw (j := s) ⟨rfl, by omega, by omega⟩ (x := nI (w (s))) rfl d_Ranges_sort_61 ?_
                refine x_iast hC h1 (j := p) ⟨rfl, by omega, by omega⟩ d_Ranges_sort_62 (g1 := fun b9 => nI (updN s2 (p) (w (s)) b9)) (x_updN _ _ _) ?_
                generalize eq2 : updN s2 (p) (w (s)) = q2
                generalize e2 : xup Fh16 (g + 1) (.inr (0, 8, fun b9 => .int (nI (q2 b9)))) = F2
                have h0 : F2 (g) = some (.inl (6, [.ref (g + 1), .ref (g + 2)])) := by rw [← e2]; exact (xup_ne (by omega)).trans h0
                have h1 : F2 (g + 1) = some (.inr (0, 8, fun b9 => .int (nI (q2 b9)))) := by rw [← e2]; exact xup_eq
                have hw : F2 (a) = some (.inr (0, 8, fun b9 => .int (nI (w b9)))) := by rw [← e2]; exact (xup_ne (by omega)).trans hw
                have hag : ∀ a9 : Nat, (a9 < g + 1 ∨ g + 1 + 1 ≤ a9) → F2 a9 = F a9 := fun a9 q0 => by rw [← e2]; exact (xup_ne (by omega)).trans (hag a9 q0)
                refine x_iinc hC d_Ranges_sort_63 rfl (v := (nI (s + 1))) (x_incN 1) (Nat.le_of_ble_eq_true rfl) (L1 := [some (.ref g), some (.ref a), some (.int (nI (s + 1))), some (.int (nI (p)))]) rfl ?_
                refine x_goto hC d_Ranges_sort_66 (tgt := 2) (by decide) ?_
                refine x_forget (L1 := [some (.ref g), some (.ref a), some (.int (nI (s + 1))), none]) ⟨Or.inr rfl, ⟨Or.inr rfl, ⟨Or.inr rfl, ⟨Or.inl rfl, trivial⟩⟩⟩⟩ ?_
                exact ih_2 F2 (s + 1) (q2) h0 h1 hw hag (by omega) (by rw [← eq2]; exact hks) (by omega)
              · skip
                refine x_aload_n hC d_Ranges_sort_20 rfl rfl ?_
                refine x_getf hC kf_Ranges_9 h0 rfl d_Ranges_sort_21 ?_
                refine x_iload_n hC d_Ranges_sort_24 rfl rfl ?_
                refine x_iconst hC d_Ranges_sort_25 (v := nI 1) (by decide) ?_
                refine x_isub hC d_Ranges_sort_26 (v := (nI ((p) - 1))) (pk_sub (by omega)) ?_
                refine x_iald hC h1 (j := (p) - 1) ⟨rfl, by omega, by omega⟩ (x := nI (s2 ((p) - 1))) rfl d_Ranges_sort_27 ?_
                refine x_aload_n hC d_Ranges_sort_28 rfl rfl ?_
                refine x_iload_n hC d_Ranges_sort_29 rfl rfl ?_
                refine x_iald hC hw (j := s) ⟨rfl, by omega, by omega⟩ (x := nI (w (s))) rfl d_Ranges_sort_30 ?_
                have hws := hw9 s (by omega)
                have hs2 : s2 (p - 1) = s1 (p - 1) := kl _ (by omega)
                have hbd9 : s1 (p - 1) ≤ 99 := srtN_bd ks (fun j hj => hw9 j (by omega)) (by omega)
                refine x_icmpN_le hC d_Ranges_sort_31 (tgt := 54) (by decide) (by omega) (by omega) (fun c_31 => ?_) (fun c_31 => ?_)
                · skip
                  refine x_aload_n hC d_Ranges_sort_54 rfl rfl ?_
                  refine x_getf hC kf_Ranges_9 h0 rfl d_Ranges_sort_55 ?_
                  refine x_iload_n hC d_Ranges_sort_58 rfl rfl ?_
                  refine x_aload_n hC d_Ranges_sort_59 rfl rfl ?_
                  refine x_iload_n hC d_Ranges_sort_60 rfl rfl ?_
                  have hx4 : ∀ j, j < p → s1 j ≤ w s := fun j hj => by first | exact absurd hj (by omega) | exact Nat.le_trans (by rcases Nat.lt_or_ge j (p - 1) with q | q; exact ks.1 j (p - 1) q (by omega); rw [show j = p - 1 by omega]; exact Nat.le_refl _) (by rw [← hs2]; exact c_31)
                  have hks := srtN_step ks hp.1 kl kr kg hx4
                  refine x_iald hC hw (j := s) ⟨rfl, by omega, by omega⟩ (x := nI (w (s))) rfl d_Ranges_sort_61 ?_
                  refine x_iast hC h1 (j := p) ⟨rfl, by omega, by omega⟩ d_Ranges_sort_62 (g1 := fun b9 => nI (updN s2 (p) (w (s)) b9)) (x_updN _ _ _) ?_
                  generalize eq2 : updN s2 (p) (w (s)) = q2
                  generalize e4 : xup Fh16 (g + 1) (.inr (0, 8, fun b9 => .int (nI (q2 b9)))) = F4
                  have h0 : F4 (g) = some (.inl (6, [.ref (g + 1), .ref (g + 2)])) := by rw [← e4]; exact (xup_ne (by omega)).trans h0
                  have h1 : F4 (g + 1) = some (.inr (0, 8, fun b9 => .int (nI (q2 b9)))) := by rw [← e4]; exact xup_eq
                  have hw : F4 (a) = some (.inr (0, 8, fun b9 => .int (nI (w b9)))) := by rw [← e4]; exact (xup_ne (by omega)).trans hw
                  have hag : ∀ a9 : Nat, (a9 < g + 1 ∨ g + 1 + 1 ≤ a9) → F4 a9 = F a9 := fun a9 q0 => by rw [← e4]; exact (xup_ne (by omega)).trans (hag a9 q0)
                  refine x_iinc hC d_Ranges_sort_63 rfl (v := (nI (s + 1))) (x_incN 1) (Nat.le_of_ble_eq_true rfl) (L1 := [some (.ref g), some (.ref a), some (.int (nI (s + 1))), some (.int (nI (p)))]) rfl ?_
                  refine x_goto hC d_Ranges_sort_66 (tgt := 2) (by decide) ?_
                  refine x_forget (L1 := [some (.ref g), some (.ref a), some (.int (nI (s + 1))), none]) ⟨Or.inr rfl, ⟨Or.inr rfl, ⟨Or.inr rfl, ⟨Or.inl rfl, trivial⟩⟩⟩⟩ ?_
                  exact ih_2 F4 (s + 1) (q2) h0 h1 hw hag (by omega) (by rw [← eq2]; exact hks) (by omega)
                · skip
                  refine x_aload_n hC d_Ranges_sort_34 rfl rfl ?_
                  refine x_getf hC kf_Ranges_9 h0 rfl d_Ranges_sort_35 ?_
                  refine x_iload_n hC d_Ranges_sort_38 rfl rfl ?_
                  refine x_aload_n hC d_Ranges_sort_39 rfl rfl ?_
                  refine x_getf hC kf_Ranges_9 h0 rfl d_Ranges_sort_40 ?_
                  refine x_iload_n hC d_Ranges_sort_43 rfl rfl ?_
                  refine x_iconst hC d_Ranges_sort_44 (v := nI 1) (by decide) ?_
                  refine x_isub hC d_Ranges_sort_45 (v := (nI ((p) - 1))) (pk_sub (by omega)) ?_
                  refine x_iald hC h1 (j := (p) - 1) ⟨rfl, by omega, by omega⟩ (x := nI (s2 ((p) - 1))) rfl d_Ranges_sort_46 ?_
                  refine x_iast hC h1 (j := p) ⟨rfl, by omega, by omega⟩ d_Ranges_sort_47 (g1 := fun b9 => nI (updN s2 (p) (s2 ((p) - 1)) b9)) (x_updN _ _ _) ?_
                  generalize eq1 : updN s2 (p) (s2 ((p) - 1)) = q1
                  generalize e6 : xup Fh16 (g + 1) (.inr (0, 8, fun b9 => .int (nI (q1 b9)))) = F6
                  have h0 : F6 (g) = some (.inl (6, [.ref (g + 1), .ref (g + 2)])) := by rw [← e6]; exact (xup_ne (by omega)).trans h0
                  have h1 : F6 (g + 1) = some (.inr (0, 8, fun b9 => .int (nI (q1 b9)))) := by rw [← e6]; exact xup_eq
                  have hw : F6 (a) = some (.inr (0, 8, fun b9 => .int (nI (w b9)))) := by rw [← e6]; exact (xup_ne (by omega)).trans hw
                  have hag : ∀ a9 : Nat, (a9 < g + 1 ∨ g + 1 + 1 ≤ a9) → F6 a9 = F a9 := fun a9 q0 => by rw [← e6]; exact (xup_ne (by omega)).trans (hag a9 q0)
                  refine x_iinc hC d_Ranges_sort_48 rfl (v := (nI ((p) - 1))) (x_decN (by omega)) (Nat.le_of_ble_eq_true rfl) (L1 := [some (.ref g), some (.ref a), some (.int (nI (s))), some (.int (nI ((p) - 1)))]) rfl ?_
                  refine x_goto hC d_Ranges_sort_51 (tgt := 16) (by decide) ?_
                  exact ih_16 F6 (p - 1) (q1) h0 h1 hw hag (by omega) (fun j hj => by rw [← eq1, updN_ne (by omega)]; exact kl j (by omega)) (fun j h9 h8 => by by_cases e9 : j = p; (rw [← eq1, e9, updN_eq]; exact hs2); (rw [← eq1, updN_ne e9]; exact kr j (by omega) h8)) (fun j h9 h8 => by by_cases e9 : j = p - 1; (rw [e9, ← hs2]; omega); (exact kg j (by omega) h8)) (by omega)
          exact loop_16 (s + 1) Fh2 (s) (s1) h0 h1 hw hag (by omega) (fun _ _ => rfl) (fun j h9 h8 => absurd h9 (by omega)) (fun j h9 h8 => absurd h9 (by omega)) (by omega)
  exact loop_2 (8 - 0 + 1) F (0) (sv) h0 h1 hw hag (by omega) (srtN_0 _ _) (by omega)

theorem d_Ranges_divide_0 : decode prog_10_method_4_code 0 = .ok (.aload_n 0, 1) := by decide +kernel
theorem d_Ranges_divide_1 : decode prog_10_method_4_code 1 = .ok (.getfield 9, 3) := by decide +kernel
theorem d_Ranges_divide_4 : decode prog_10_method_4_code 4 = .ok (.iload_n 2, 1) := by decide +kernel
theorem d_Ranges_divide_5 : decode prog_10_method_4_code 5 = .ok (.iaload, 1) := by decide +kernel
theorem d_Ranges_divide_6 : decode prog_10_method_4_code 6 = .ok (.istore_n 3, 1) := by decide +kernel
theorem d_Ranges_divide_7 : decode prog_10_method_4_code 7 = .ok (.ldc 28, 2) := by decide +kernel
theorem d_Ranges_divide_9 : decode prog_10_method_4_code 9 = .ok (.istore 4, 2) := by decide +kernel
theorem d_Ranges_divide_11 : decode prog_10_method_4_code 11 = .ok (.iload_n 1, 1) := by decide +kernel
theorem d_Ranges_divide_12 : decode prog_10_method_4_code 12 = .ok (.istore 5, 2) := by decide +kernel
theorem d_Ranges_divide_14 : decode prog_10_method_4_code 14 = .ok (.iload 5, 2) := by decide +kernel
theorem d_Ranges_divide_16 : decode prog_10_method_4_code 16 = .ok (.iload_n 2, 1) := by decide +kernel
theorem d_Ranges_divide_17 : decode prog_10_method_4_code 17 = .ok (.if_icmp .ge 47, 3) := by decide +kernel
theorem d_Ranges_divide_20 : decode prog_10_method_4_code 20 = .ok (.iload_n 3, 1) := by decide +kernel
theorem d_Ranges_divide_21 : decode prog_10_method_4_code 21 = .ok (.aload_n 0, 1) := by decide +kernel
theorem d_Ranges_divide_22 : decode prog_10_method_4_code 22 = .ok (.getfield 9, 3) := by decide +kernel
theorem d_Ranges_divide_25 : decode prog_10_method_4_code 25 = .ok (.iload 5, 2) := by decide +kernel
theorem d_Ranges_divide_27 : decode prog_10_method_4_code 27 = .ok (.iaload, 1) := by decide +kernel
theorem d_Ranges_divide_28 : decode prog_10_method_4_code 28 = .ok (.iadd, 1) := by decide +kernel
theorem d_Ranges_divide_29 : decode prog_10_method_4_code 29 = .ok (.istore_n 3, 1) := by decide +kernel
theorem d_Ranges_divide_30 : decode prog_10_method_4_code 30 = .ok (.iload 4, 2) := by decide +kernel
theorem d_Ranges_divide_32 : decode prog_10_method_4_code 32 = .ok (.aload_n 0, 1) := by decide +kernel
theorem d_Ranges_divide_33 : decode prog_10_method_4_code 33 = .ok (.getfield 17, 3) := by decide +kernel
theorem d_Ranges_divide_36 : decode prog_10_method_4_code 36 = .ok (.iload_n 1, 1) := by decide +kernel
theorem d_Ranges_divide_37 : decode prog_10_method_4_code 37 = .ok (.aaload, 1) := by decide +kernel
theorem d_Ranges_divide_38 : decode prog_10_method_4_code 38 = .ok (.iload 5, 2) := by decide +kernel
theorem d_Ranges_divide_40 : decode prog_10_method_4_code 40 = .ok (.iaload, 1) := by decide +kernel
theorem d_Ranges_divide_41 : decode prog_10_method_4_code 41 = .ok (.aload_n 0, 1) := by decide +kernel
theorem d_Ranges_divide_42 : decode prog_10_method_4_code 42 = .ok (.getfield 17, 3) := by decide +kernel
theorem d_Ranges_divide_45 : decode prog_10_method_4_code 45 = .ok (.iload 5, 2) := by decide +kernel
theorem d_Ranges_divide_47 : decode prog_10_method_4_code 47 = .ok (.iconst 1, 1) := by decide +kernel
theorem d_Ranges_divide_48 : decode prog_10_method_4_code 48 = .ok (.iadd, 1) := by decide +kernel
theorem d_Ranges_divide_49 : decode prog_10_method_4_code 49 = .ok (.aaload, 1) := by decide +kernel
theorem d_Ranges_divide_50 : decode prog_10_method_4_code 50 = .ok (.iload_n 2, 1) := by decide +kernel
theorem d_Ranges_divide_51 : decode prog_10_method_4_code 51 = .ok (.iaload, 1) := by decide +kernel
theorem d_Ranges_divide_52 : decode prog_10_method_4_code 52 = .ok (.iadd, 1) := by decide +kernel
theorem d_Ranges_divide_53 : decode prog_10_method_4_code 53 = .ok (.invokestatic 29, 3) := by decide +kernel
theorem d_Ranges_divide_56 : decode prog_10_method_4_code 56 = .ok (.istore 4, 2) := by decide +kernel
theorem d_Ranges_divide_58 : decode prog_10_method_4_code 58 = .ok (.iinc 5 1, 3) := by decide +kernel
theorem d_Ranges_divide_61 : decode prog_10_method_4_code 61 = .ok (.goto (-47), 3) := by decide +kernel
theorem d_Ranges_divide_64 : decode prog_10_method_4_code 64 = .ok (.aload_n 0, 1) := by decide +kernel
theorem d_Ranges_divide_65 : decode prog_10_method_4_code 65 = .ok (.getfield 17, 3) := by decide +kernel
theorem d_Ranges_divide_68 : decode prog_10_method_4_code 68 = .ok (.iload_n 1, 1) := by decide +kernel
theorem d_Ranges_divide_69 : decode prog_10_method_4_code 69 = .ok (.aaload, 1) := by decide +kernel
theorem d_Ranges_divide_70 : decode prog_10_method_4_code 70 = .ok (.iload_n 2, 1) := by decide +kernel
theorem d_Ranges_divide_71 : decode prog_10_method_4_code 71 = .ok (.iload 4, 2) := by decide +kernel
theorem d_Ranges_divide_73 : decode prog_10_method_4_code 73 = .ok (.iload_n 3, 1) := by decide +kernel
theorem d_Ranges_divide_74 : decode prog_10_method_4_code 74 = .ok (.iadd, 1) := by decide +kernel
theorem d_Ranges_divide_75 : decode prog_10_method_4_code 75 = .ok (.iastore, 1) := by decide +kernel
theorem d_Ranges_divide_76 : decode prog_10_method_4_code 76 = .ok (.return_, 1) := by decide +kernel
set_option maxHeartbeats 4000000 in
set_option maxRecDepth 20000 in
theorem c_Ranges_divide {P : xP} {F : xF} {z : Nat} {g : Nat} {sv : Nat → Nat} {f : Nat → Value} {l : Nat → Nat → Nat} {i : Nat} {j : Nat} (h0 : F (g) = some (.inl (6, [.ref (g + 1), .ref (g + 2)]))) (h1 : F (g + 1) = some (.inr (0, 8, fun b9 => .int (nI (sv b9))))) (h2 : F (g + 2) = some (.inr (7, 8, f))) (hl : xRl F (g) (l)) (hij : i < j) (hj : j < 8) (hf : ∀ i, i < 8 → f i = .ref (g + 3 + i)) (hsv : ∀ j, j < 8 → sv j ≤ 99) (hlb : ∀ c, i + c < j → l i (i + c) ≤ 100000 ∧ l (i + c + 1) j ≤ 100000) : xM P xy_Ranges_divide [.ref g, .int (nI (i)), .int (nI (j))] F (z) 0 0 (fun r9 F9 z9 => r9 = none ∧ z9 = z ∧ F9 (g) = some (.inl (6, [.ref (g + 1), .ref (g + 2)])) ∧ F9 (g + 1) = some (.inr (0, 8, fun b9 => .int (nI (sv b9)))) ∧ F9 (g + 2) = some (.inr (7, 8, f)) ∧ xRl F9 (g) ((upd2 l i j (rgM l i j (j - i) + rgS sv i j (j - i)))) ∧ (∀ a9 : Nat, (a9 < g ∨ g + 11 ≤ a9) → F9 a9 = F a9)) := by
  refine xM_v rfl (Nat.le_of_ble_eq_true rfl) (L0 := [some (.ref g), some (.int (nI (i))), some (.int (nI (j))), none, none, none]) rfl rfl fun Θ hC hin hret => ?_
  have hag : ∀ a9 : Nat, (a9 < g + 3 + i ∨ g + 3 + i + 1 ≤ a9) → F a9 = F a9 := fun a9 _ => rfl
  refine x_aload_n hC d_Ranges_divide_0 rfl rfl ?_
  refine x_getf hC kf_Ranges_9 h0 rfl d_Ranges_divide_1 ?_
  refine x_iload_n hC d_Ranges_divide_4 rfl rfl ?_
  refine x_iald hC h1 (j := j) ⟨rfl, by omega, by omega⟩ (x := nI (sv (j))) rfl d_Ranges_divide_5 ?_
  refine x_istore_n hC d_Ranges_divide_6 rfl (Nat.le_of_ble_eq_true rfl) (L1 := [some (.ref g), some (.int (nI (i))), some (.int (nI (j))), some (.int (nI (sv (j)))), none, none]) rfl ?_
  refine x_ldc hC (v := nI 1073741824) (x_in (x_of (xtb_3 (List.mem_of_getElem? (i := 18) (by decide +kernel)))) (by decide +kernel)) d_Ranges_divide_7 ?_
  refine x_istore hC d_Ranges_divide_9 (Nat.le_of_ble_eq_true rfl) (L1 := [some (.ref g), some (.int (nI (i))), some (.int (nI (j))), some (.int (nI (sv (j)))), some (.int (nI 1073741824)), none]) rfl ?_
  refine x_iload_n hC d_Ranges_divide_11 rfl rfl ?_
  refine x_istore hC d_Ranges_divide_12 (Nat.le_of_ble_eq_true rfl) (L1 := [some (.ref g), some (.int (nI (i))), some (.int (nI (j))), some (.int (nI (sv (j)))), some (.int (nI 1073741824)), some (.int (nI (i)))]) rfl ?_
  have loop_14 : ∀ (m9 : Nat) (Fh14 : xF) (c : Nat) (b : Nat) (s : Nat), (Fh14 (g) = some (.inl (6, [.ref (g + 1), .ref (g + 2)]))) → (Fh14 (g + 1) = some (.inr (0, 8, fun b9 => .int (nI (sv b9))))) → (Fh14 (g + 2) = some (.inr (7, 8, f))) → (xRl Fh14 (g) (l)) → (∀ a9 : Nat, (a9 < g + 3 + i ∨ g + 3 + i + 1 ≤ a9) → Fh14 a9 = F a9) → (i + c ≤ j) → (b = rgM l i j c) → (s = rgS sv i j c) → (j - i - c < m9) → xX P Θ 14 [some (.ref g), some (.int (nI (i))), some (.int (nI (j))), some (.int (nI (s))), some (.int (nI (b))), some (.int (nI (i + c)))] [] Fh14 (z) 0 0 := by
    intro m9
    induction m9 with
    | zero => intros; omega
    | succ m9 ih_14 =>
      intro Fh14 c b s h0 h1 h2 hl hag hc km ks hm_14
      have hb9 : b ≤ 1073741824 := by rw [km]; exact rgM_le _ _ _ _
      have hs9 : s ≤ 99 * (c + 1) := by rw [ks]; exact rgS_le (hsv _ hj) c (fun d hd => hsv _ (by omega))
      refine x_iload hC d_Ranges_divide_14 rfl ?_
      refine x_iload_n hC d_Ranges_divide_16 rfl rfl ?_
      refine x_icmpN_ge hC d_Ranges_divide_17 (tgt := 64) (by decide) (by omega) (by omega) (fun c_17 => ?_) (fun c_17 => ?_)
      · skip
        have hji : j = i + c := by omega
        have hms := rgM_le1 l i j (d := 0) c (by omega)
        have hlc := hlb 0 (by omega)
        have hss := rgS_le (sv := sv) (i := i) (j := j) (b := 99) (hsv _ hj) c (fun d hd => hsv _ (by omega))
        refine x_aload_n hC d_Ranges_divide_64 rfl rfl ?_
        refine x_getf hC kf_Ranges_17 h0 rfl d_Ranges_divide_65 ?_
        refine x_iload_n hC d_Ranges_divide_68 rfl rfl ?_
        refine x_aald hC h2 (by decide) rfl (j := i) ⟨rfl, by omega, by omega⟩ (x := .ref (g + 3 + i)) (hf i (by omega)) rfl d_Ranges_divide_69 ?_
        have hl1 := hl i (by omega)
        refine x_iload_n hC d_Ranges_divide_70 rfl rfl ?_
        refine x_iload hC d_Ranges_divide_71 rfl ?_
        refine x_iload_n hC d_Ranges_divide_73 rfl rfl ?_
        refine x_iadd hC d_Ranges_divide_74 (v := (nI (b + s))) (x_addN (by omega)) ?_
        refine x_iast hC hl1 (j := j) ⟨rfl, by omega, by omega⟩ d_Ranges_divide_75 (g1 := fun b9 => nI (updN ((l i)) (j) (b + s) b9)) (x_updN _ _ _) ?_
        generalize eq1 : updN ((l i)) (j) (b + s) = q1
        generalize e2 : xup Fh14 (g + 3 + i) (.inr (0, 8, fun b9 => .int (nI (q1 b9)))) = F2
        have h0 : F2 (g) = some (.inl (6, [.ref (g + 1), .ref (g + 2)])) := by rw [← e2]; exact (xup_ne (by omega)).trans h0
        have h1 : F2 (g + 1) = some (.inr (0, 8, fun b9 => .int (nI (sv b9)))) := by rw [← e2]; exact (xup_ne (by omega)).trans h1
        have h2 : F2 (g + 2) = some (.inr (7, 8, f)) := by rw [← e2]; exact (xup_ne (by omega)).trans h2
        have hl1 : F2 (g + 3 + i) = some (.inr (0, 8, fun b9 => .int (nI (q1 b9)))) := by rw [← e2]; exact xup_eq
        have hag : ∀ a9 : Nat, (a9 < g + 3 + i ∨ g + 3 + i + 1 ≤ a9) → F2 a9 = F a9 := fun a9 q0 => by rw [← e2]; exact (xup_ne (by omega)).trans (hag a9 q0)
        refine hret _ _ _ _ _ _ d_Ranges_divide_76 (by decide) (by decide) ?_
        refine ⟨rfl, rfl, h0, h1, h2, fun j9 hj9 => ?_, fun a9 h9 => hag a9 (by omega)⟩
        by_cases e9 : j9 = i
        · rw [e9, hl1]; refine congrArg (fun q => some (Sum.inr (0, 8, q))) (funext fun b9 => ?_); rw [← eq1, show j - i = c by omega, ← km, ← ks]; by_cases e8 : b9 = j; (rw [e8, updN_eq, upd2_eq]); (rw [updN_ne e8, upd2_ne (fun h8 => e8 h8.2)])
        · rw [← e2, xup_ne (by omega), hl j9 hj9]; refine congrArg (fun q => some (Sum.inr (0, 8, q))) (funext fun b9 => ?_); rw [upd2_ne (fun h8 => e9 h8.1)]
      · skip
        refine x_iload_n hC d_Ranges_divide_20 rfl rfl ?_
        refine x_aload_n hC d_Ranges_divide_21 rfl rfl ?_
        refine x_getf hC kf_Ranges_9 h0 rfl d_Ranges_divide_22 ?_
        refine x_iload hC d_Ranges_divide_25 rfl ?_
        refine x_iald hC h1 (j := i + c) ⟨rfl, by omega, by omega⟩ (x := nI (sv (i + c))) rfl d_Ranges_divide_27 ?_
        have hsl := hsv (i + c) (by omega)
        refine x_iadd hC d_Ranges_divide_28 (v := (nI ((s) + (sv (i + c))))) (x_addN (by omega)) ?_
        refine x_istore_n hC d_Ranges_divide_29 rfl (Nat.le_of_ble_eq_true rfl) (L1 := [some (.ref g), some (.int (nI (i))), some (.int (nI (j))), some (.int (nI ((s) + (sv (i + c))))), some (.int (nI (b))), some (.int (nI (i + c)))]) rfl ?_
        refine x_iload hC d_Ranges_divide_30 rfl ?_
        refine x_aload_n hC d_Ranges_divide_32 rfl rfl ?_
        refine x_getf hC kf_Ranges_17 h0 rfl d_Ranges_divide_33 ?_
        refine x_iload_n hC d_Ranges_divide_36 rfl rfl ?_
        refine x_aald hC h2 (by decide) rfl (j := i) ⟨rfl, by omega, by omega⟩ (x := .ref (g + 3 + i)) (hf i (by omega)) rfl d_Ranges_divide_37 ?_
        have hl1 := hl i (by omega)
        have hlc := hlb c (by omega)
        refine x_iload hC d_Ranges_divide_38 rfl ?_
        refine x_iald hC hl1 (j := i + c) ⟨rfl, by omega, by omega⟩ (x := nI (((l i)) (i + c))) rfl d_Ranges_divide_40 ?_
        refine x_aload_n hC d_Ranges_divide_41 rfl rfl ?_
        refine x_getf hC kf_Ranges_17 h0 rfl d_Ranges_divide_42 ?_
        refine x_iload hC d_Ranges_divide_45 rfl ?_
        refine x_iconst hC d_Ranges_divide_47 (v := nI 1) (by decide) ?_
        refine x_iadd hC d_Ranges_divide_48 (v := (nI (i + c + 1))) (x_addN (by omega)) ?_
        refine x_aald hC h2 (by decide) rfl (j := i + c + 1) ⟨rfl, by omega, by omega⟩ (x := .ref (g + 3 + (i + c + 1))) (hf (i + c + 1) (by omega)) rfl d_Ranges_divide_49 ?_
        have hl2 := hl (i + c + 1) (by omega)
        refine x_iload_n hC d_Ranges_divide_50 rfl rfl ?_
        refine x_iald hC hl2 (j := j) ⟨rfl, by omega, by omega⟩ (x := nI (((l (i + c + 1))) (j))) rfl d_Ranges_divide_51 ?_
        refine x_iadd hC d_Ranges_divide_52 (v := (nI ((((l i)) (i + c)) + (((l (i + c + 1))) (j))))) (x_addN (by omega)) ?_
        refine x_mminN hC km_Ranges_29 (by omega) (by omega) rfl (by decide) (Nat.le_of_ble_eq_true rfl) (by decide) d_Ranges_divide_53 (v := if (((l i)) (i + c)) + (((l (i + c + 1))) (j)) < b then (((l i)) (i + c)) + (((l (i + c + 1))) (j)) else b) rfl ?_
        refine x_istore hC d_Ranges_divide_56 (Nat.le_of_ble_eq_true rfl) (L1 := [some (.ref g), some (.int (nI (i))), some (.int (nI (j))), some (.int (nI ((s) + (sv (i + c))))), some (.int (nI (if (((l i)) (i + c)) + (((l (i + c + 1))) (j)) < b then (((l i)) (i + c)) + (((l (i + c + 1))) (j)) else b))), some (.int (nI (i + c)))]) rfl ?_
        refine x_iinc hC d_Ranges_divide_58 rfl (v := (nI (i + c + 1))) (x_incN 1) (Nat.le_of_ble_eq_true rfl) (L1 := [some (.ref g), some (.int (nI (i))), some (.int (nI (j))), some (.int (nI ((s) + (sv (i + c))))), some (.int (nI (if (((l i)) (i + c)) + (((l (i + c + 1))) (j)) < b then (((l i)) (i + c)) + (((l (i + c + 1))) (j)) else b))), some (.int (nI (i + c + 1)))]) rfl ?_
        refine x_goto hC d_Ranges_divide_61 (tgt := 14) (by decide) ?_
        exact ih_14 Fh14 (c + 1) (if (((l i)) (i + c)) + (((l (i + c + 1))) (j)) < b then (((l i)) (i + c)) + (((l (i + c + 1))) (j)) else b) ((s) + (sv (i + c))) h0 h1 h2 hl hag (by omega) (by rw [rgM, ← km]) (by rw [rgS, ← ks]) (by omega)
  exact loop_14 (j - i - 0 + 1) F (0) (1073741824) (sv j) h0 h1 h2 hl hag (by omega) (rfl) (rfl) (by omega)

theorem d_Ranges_leastSum_0 : decode prog_10_method_2_code 0 = .ok (.aload_n 0, 1) := by decide +kernel
theorem d_Ranges_leastSum_1 : decode prog_10_method_2_code 1 = .ok (.aload_n 1, 1) := by decide +kernel
theorem d_Ranges_leastSum_2 : decode prog_10_method_2_code 2 = .ok (.invokevirtual 20, 3) := by decide +kernel
theorem d_Ranges_leastSum_5 : decode prog_10_method_2_code 5 = .ok (.iconst 2, 1) := by decide +kernel
theorem d_Ranges_leastSum_6 : decode prog_10_method_2_code 6 = .ok (.istore_n 2, 1) := by decide +kernel
theorem d_Ranges_leastSum_7 : decode prog_10_method_2_code 7 = .ok (.iload_n 2, 1) := by decide +kernel
theorem d_Ranges_leastSum_8 : decode prog_10_method_2_code 8 = .ok (.bipush 8, 2) := by decide +kernel
theorem d_Ranges_leastSum_10 : decode prog_10_method_2_code 10 = .ok (.if_icmp .gt 35, 3) := by decide +kernel
theorem d_Ranges_leastSum_13 : decode prog_10_method_2_code 13 = .ok (.iconst 0, 1) := by decide +kernel
theorem d_Ranges_leastSum_14 : decode prog_10_method_2_code 14 = .ok (.istore_n 3, 1) := by decide +kernel
theorem d_Ranges_leastSum_15 : decode prog_10_method_2_code 15 = .ok (.iload_n 3, 1) := by decide +kernel
theorem d_Ranges_leastSum_16 : decode prog_10_method_2_code 16 = .ok (.iload_n 2, 1) := by decide +kernel
theorem d_Ranges_leastSum_17 : decode prog_10_method_2_code 17 = .ok (.iadd, 1) := by decide +kernel
theorem d_Ranges_leastSum_18 : decode prog_10_method_2_code 18 = .ok (.bipush 8, 2) := by decide +kernel
theorem d_Ranges_leastSum_20 : decode prog_10_method_2_code 20 = .ok (.if_icmp .gt 19, 3) := by decide +kernel
theorem d_Ranges_leastSum_23 : decode prog_10_method_2_code 23 = .ok (.aload_n 0, 1) := by decide +kernel
theorem d_Ranges_leastSum_24 : decode prog_10_method_2_code 24 = .ok (.iload_n 3, 1) := by decide +kernel
theorem d_Ranges_leastSum_25 : decode prog_10_method_2_code 25 = .ok (.iload_n 3, 1) := by decide +kernel
theorem d_Ranges_leastSum_26 : decode prog_10_method_2_code 26 = .ok (.iload_n 2, 1) := by decide +kernel
theorem d_Ranges_leastSum_27 : decode prog_10_method_2_code 27 = .ok (.iadd, 1) := by decide +kernel
theorem d_Ranges_leastSum_28 : decode prog_10_method_2_code 28 = .ok (.iconst 1, 1) := by decide +kernel
theorem d_Ranges_leastSum_29 : decode prog_10_method_2_code 29 = .ok (.isub, 1) := by decide +kernel
theorem d_Ranges_leastSum_30 : decode prog_10_method_2_code 30 = .ok (.invokevirtual 24, 3) := by decide +kernel
theorem d_Ranges_leastSum_33 : decode prog_10_method_2_code 33 = .ok (.iinc 3 1, 3) := by decide +kernel
theorem d_Ranges_leastSum_36 : decode prog_10_method_2_code 36 = .ok (.goto (-21), 3) := by decide +kernel
theorem d_Ranges_leastSum_39 : decode prog_10_method_2_code 39 = .ok (.iinc 2 1, 3) := by decide +kernel
theorem d_Ranges_leastSum_42 : decode prog_10_method_2_code 42 = .ok (.goto (-35), 3) := by decide +kernel
theorem d_Ranges_leastSum_45 : decode prog_10_method_2_code 45 = .ok (.aload_n 0, 1) := by decide +kernel
theorem d_Ranges_leastSum_46 : decode prog_10_method_2_code 46 = .ok (.getfield 17, 3) := by decide +kernel
theorem d_Ranges_leastSum_49 : decode prog_10_method_2_code 49 = .ok (.iconst 0, 1) := by decide +kernel
theorem d_Ranges_leastSum_50 : decode prog_10_method_2_code 50 = .ok (.aaload, 1) := by decide +kernel
theorem d_Ranges_leastSum_51 : decode prog_10_method_2_code 51 = .ok (.bipush 7, 2) := by decide +kernel
theorem d_Ranges_leastSum_53 : decode prog_10_method_2_code 53 = .ok (.iaload, 1) := by decide +kernel
theorem d_Ranges_leastSum_54 : decode prog_10_method_2_code 54 = .ok (.ireturn, 1) := by decide +kernel
set_option maxHeartbeats 4000000 in
set_option maxRecDepth 20000 in
theorem c_Ranges_leastSum {P : xP} {F : xF} {z : Nat} {g : Nat} {a : Nat} {w : Nat → Nat} (hg : xRg F (g)) (hw : F (a) = some (.inr (0, 8, fun b9 => .int (nI (w b9))))) (hw9 : ∀ j, j < 8 → w j ≤ 99) (hd : a < g ∨ g + 11 ≤ a) : xM P xy_Ranges_leastSum [.ref g, .ref a] F (z) 0 0 (fun r9 F9 z9 => ∃ sv1 : Nat → Nat, ∃ l1 : Nat → Nat → Nat, r9 = some (.int (nI (l1 0 7))) ∧ z9 = z ∧ xRg F9 (g) ∧ F9 (a) = some (.inr (0, 8, fun b9 => .int (nI (w b9)))) ∧ (srtN w sv1 8) ∧ (∀ i, i < 8 → l1 i i = 0) ∧ (∀ i, ∀ j, i < j → j < 8 → rgK sv1 l1 i j) ∧ (∀ a9 : Nat, (a9 < g ∨ g + 11 ≤ a9) → F9 a9 = F a9)) := by
  refine xM_i .int rfl (Nat.le_of_ble_eq_true rfl) (L0 := [some (.ref g), some (.ref a), none, none]) rfl rfl fun Θ hC hret => ?_
  have hag : ∀ a9 : Nat, (a9 < g ∨ g + 11 ≤ a9) → F a9 = F a9 := fun a9 _ => rfl
  obtain ⟨h0, ⟨sv, h1⟩, ⟨f, h2, hf⟩, l, hl, hz⟩ := id hg
  refine x_aload_n hC d_Ranges_leastSum_0 rfl rfl ?_
  refine x_aload_n hC d_Ranges_leastSum_1 rfl rfl ?_
  refine x_callV hC kv_Ranges_20 (c_Ranges_sort (h0 := h0) (h1 := h1) (hw := hw) (hw9 := by omega) (hd := by omega)) h0 rfl rfl (by decide) rfl rfl rfl (Nat.le_of_ble_eq_true rfl) (by decide) d_Ranges_leastSum_2 (fun r9 F9 z9 hp9 => ?_)
  obtain ⟨sv1_2, rfl, h9c, j0, j1, j2, pk_2, hag9⟩ := hp9
  rw [h9c]
  clear h9c z9
  generalize F9 = F1 at *
  have h2 : F1 (g + 2) = some (.inr (7, 8, f)) := (hag9 _ (by omega)).trans h2
  have hl : xRl F1 (g) (l) := xRl_fr hl (fun a9 q1 q2 => hag9 a9 (by omega))
  have h0 : F1 (g) = some (.inl (6, [.ref (g + 1), .ref (g + 2)])) := j0
  have h1 : F1 (g + 1) = some (.inr (0, 8, fun b9 => .int (nI (sv1_2 b9)))) := j1
  have hw : F1 (a) = some (.inr (0, 8, fun b9 => .int (nI (w b9)))) := j2
  have hag : ∀ a9 : Nat, (a9 < g ∨ g + 11 ≤ a9) → F1 a9 = F a9 := fun a9 q0 => (hag9 a9 (by omega)).trans (hag a9 q0)
  have hg_2 := hag9
  clear hag9
  have hsv : ∀ j, j < 8 → sv1_2 j ≤ 99 := fun j hj => srtN_bd pk_2 hw9 hj
  refine x_iconst hC d_Ranges_leastSum_5 (v := nI 2) (by decide) ?_
  refine x_istore_n hC d_Ranges_leastSum_6 rfl (Nat.le_of_ble_eq_true rfl) (L1 := [some (.ref g), some (.ref a), some (.int (nI 2)), none]) rfl ?_
  have loop_7 : ∀ (m9 : Nat) (Fh7 : xF) (sz : Nat) (l1 : Nat → Nat → Nat), (Fh7 (g) = some (.inl (6, [.ref (g + 1), .ref (g + 2)]))) → (Fh7 (g + 1) = some (.inr (0, 8, fun b9 => .int (nI (sv1_2 b9))))) → (Fh7 (g + 2) = some (.inr (7, 8, f))) → (xRl Fh7 (g) (l1)) → (Fh7 (a) = some (.inr (0, 8, fun b9 => .int (nI (w b9))))) → (∀ a9 : Nat, (a9 < g ∨ g + 11 ≤ a9) → Fh7 a9 = F a9) → (2 ≤ sz ∧ sz ≤ 9) → (∀ i, i < 8 → l1 i i = 0) → (∀ i, ∀ j, i < j → j < 8 → j < i + (sz - 1) → rgK sv1_2 l1 i j) → (9 - sz < m9) → xX P Θ 7 [some (.ref g), some (.ref a), some (.int (nI (sz))), none] [] Fh7 (z) 0 0 := by
    intro m9
    induction m9 with
    | zero => intros; omega
    | succ m9 ih_7 =>
      intro Fh7 sz l1 h0 h1 h2 hl hw hag hs kz kd hm_7
      refine x_iload_n hC d_Ranges_leastSum_7 rfl rfl ?_
      refine x_bipush hC d_Ranges_leastSum_8 (v := nI 8) (by decide) ?_
      refine x_icmpN_gt hC d_Ranges_leastSum_10 (tgt := 45) (by decide) (by omega) (by omega) (fun c_10 => ?_) (fun c_10 => ?_)
      · skip
        refine x_aload_n hC d_Ranges_leastSum_45 rfl rfl ?_
        refine x_getf hC kf_Ranges_17 h0 rfl d_Ranges_leastSum_46 ?_
        refine x_iconst hC d_Ranges_leastSum_49 (v := nI 0) (by decide) ?_
        refine x_aald hC h2 (by decide) rfl (j := 0) ⟨rfl, by omega, by omega⟩ (x := .ref (g + 3 + 0)) (hf 0 (by omega)) rfl d_Ranges_leastSum_50 ?_
        have hl0 := hl 0 (by omega)
        refine x_bipush hC d_Ranges_leastSum_51 (v := nI 7) (by decide) ?_
        refine x_iald hC hl0 (j := 7) ⟨rfl, by omega, by omega⟩ (x := nI (((l1 0)) (7))) rfl d_Ranges_leastSum_53 ?_
        refine hret _ _ _ _ _ _ _ d_Ranges_leastSum_54 (by decide) (by decide) rfl ?_
        obtain rfl : sz = 9 := by omega
        exact ⟨sv1_2, l1, rfl, rfl, ⟨h0, ⟨sv1_2, h1⟩, ⟨f, h2, hf⟩, l1, hl, kz⟩, hw, pk_2, kz, fun i j h9 h8 => kd i j h9 h8 (by omega), hag⟩
      · skip
        refine x_iconst hC d_Ranges_leastSum_13 (v := nI 0) (by decide) ?_
        refine x_istore_n hC d_Ranges_leastSum_14 rfl (Nat.le_of_ble_eq_true rfl) (L1 := [some (.ref g), some (.ref a), some (.int (nI (sz))), some (.int (nI 0))]) rfl ?_
        have loop_15 : ∀ (m9 : Nat) (Fh15 : xF) (fr : Nat) (l2 : Nat → Nat → Nat), (Fh15 (g) = some (.inl (6, [.ref (g + 1), .ref (g + 2)]))) → (Fh15 (g + 1) = some (.inr (0, 8, fun b9 => .int (nI (sv1_2 b9))))) → (Fh15 (g + 2) = some (.inr (7, 8, f))) → (xRl Fh15 (g) (l2)) → (Fh15 (a) = some (.inr (0, 8, fun b9 => .int (nI (w b9))))) → (∀ a9 : Nat, (a9 < g ∨ g + 11 ≤ a9) → Fh15 a9 = F a9) → (fr + sz ≤ 9) → (∀ i, i < 8 → l2 i i = 0) → (∀ i, ∀ j, i < j → j < 8 → (j < i + (sz - 1) ∨ (j = i + (sz - 1) ∧ i < fr)) → rgK sv1_2 l2 i j) → (9 - fr < m9) → xX P Θ 15 [some (.ref g), some (.ref a), some (.int (nI (sz))), some (.int (nI (fr)))] [] Fh15 (z) 0 0 := by
          intro m9
          induction m9 with
          | zero => intros; omega
          | succ m9 ih_15 =>
            intro Fh15 fr l2 h0 h1 h2 hl hw hag hf9 kz2 kd2 hm_15
            have hbd : ∀ c, c < sz - 1 → ∀ i, i + c < 8 → l2 i (i + c) ≤ 800 * c := fun c hc i hi => rgK_bd hsv kz2 c i hi (fun d h9 h8 i hi => kd2 i (i + d) (by omega) hi (Or.inl (by omega)))
            refine x_iload_n hC d_Ranges_leastSum_15 rfl rfl ?_
            refine x_iload_n hC d_Ranges_leastSum_16 rfl rfl ?_
            refine x_iadd hC d_Ranges_leastSum_17 (v := (nI (fr + sz))) (x_addN (by omega)) ?_
            refine x_bipush hC d_Ranges_leastSum_18 (v := nI 8) (by decide) ?_
            refine x_icmpN_gt hC d_Ranges_leastSum_20 (tgt := 39) (by decide) (by omega) (by omega) (fun c_20 => ?_) (fun c_20 => ?_)
            · skip
              refine x_iinc hC d_Ranges_leastSum_39 rfl (v := (nI (sz + 1))) (x_incN 1) (Nat.le_of_ble_eq_true rfl) (L1 := [some (.ref g), some (.ref a), some (.int (nI (sz + 1))), some (.int (nI (fr)))]) rfl ?_
              refine x_goto hC d_Ranges_leastSum_42 (tgt := 7) (by decide) ?_
              refine x_forget (L1 := [some (.ref g), some (.ref a), some (.int (nI (sz + 1))), none]) ⟨Or.inr rfl, ⟨Or.inr rfl, ⟨Or.inr rfl, ⟨Or.inl rfl, trivial⟩⟩⟩⟩ ?_
              exact ih_7 Fh15 (sz + 1) (l2) h0 h1 h2 hl hw hag (by omega) (kz2) (fun i j h9 h8 h7 => kd2 i j h9 h8 (by omega)) (by omega)
            · skip
              refine x_aload_n hC d_Ranges_leastSum_23 rfl rfl ?_
              refine x_iload_n hC d_Ranges_leastSum_24 rfl rfl ?_
              refine x_iload_n hC d_Ranges_leastSum_25 rfl rfl ?_
              refine x_iload_n hC d_Ranges_leastSum_26 rfl rfl ?_
              refine x_iadd hC d_Ranges_leastSum_27 (v := (nI (fr + sz))) (x_addN (by omega)) ?_
              refine x_iconst hC d_Ranges_leastSum_28 (v := nI 1) (by decide) ?_
              refine x_isub hC d_Ranges_leastSum_29 (v := (nI (fr + (sz - 1)))) (by rw [pk_sub (by omega)]; exact congrArg nI (by omega)) ?_
              refine x_callV hC kv_Ranges_24 (c_Ranges_divide (h0 := h0) (h1 := h1) (h2 := h2) (hl := hl) (hij := by omega) (hj := by omega) (hf := hf) (hsv := hsv) (hlb := fun c hc => ⟨Nat.le_trans (hbd c (by omega) fr (by omega)) (by omega), Nat.le_trans (by have h9 := hbd (sz - 2 - c) (by omega) (fr + c + 1) (by omega); rw [show fr + c + 1 + (sz - 2 - c) = fr + (sz - 1) by omega] at h9; exact h9) (by omega)⟩)) h0 rfl rfl (by decide) rfl rfl rfl (Nat.le_of_ble_eq_true rfl) (by decide) d_Ranges_leastSum_30 (fun r9 F9 z9 hp9 => ?_)
              obtain ⟨rfl, h9c, j0, j1, j2, j3, hag9⟩ := hp9
              rw [h9c]
              clear h9c z9
              generalize F9 = F2 at *
              have hw : F2 (a) = some (.inr (0, 8, fun b9 => .int (nI (w b9)))) := (hag9 _ (by omega)).trans hw
              have h0 : F2 (g) = some (.inl (6, [.ref (g + 1), .ref (g + 2)])) := j0
              have h1 : F2 (g + 1) = some (.inr (0, 8, fun b9 => .int (nI (sv1_2 b9)))) := j1
              have h2 : F2 (g + 2) = some (.inr (7, 8, f)) := j2
              have hl : xRl F2 (g) ((upd2 l2 fr (fr + (sz - 1)) (rgM l2 fr (fr + (sz - 1)) ((fr + (sz - 1)) - fr) + rgS sv1_2 fr (fr + (sz - 1)) ((fr + (sz - 1)) - fr)))) := j3
              have hag : ∀ a9 : Nat, (a9 < g ∨ g + 11 ≤ a9) → F2 a9 = F a9 := fun a9 q0 => (hag9 a9 (by omega)).trans (hag a9 q0)
              have hg_30 := hag9
              clear hag9
              refine x_iinc hC d_Ranges_leastSum_33 rfl (v := (nI (fr + 1))) (x_incN 1) (Nat.le_of_ble_eq_true rfl) (L1 := [some (.ref g), some (.ref a), some (.int (nI (sz))), some (.int (nI (fr + 1)))]) rfl ?_
              refine x_goto hC d_Ranges_leastSum_36 (tgt := 15) (by decide) ?_
              exact ih_15 F2 (fr + 1) (upd2 l2 fr (fr + (sz - 1)) (rgM l2 fr (fr + (sz - 1)) (fr + (sz - 1) - fr) + rgS sv1_2 fr (fr + (sz - 1)) (fr + (sz - 1) - fr))) h0 h1 h2 hl hw hag (by omega) (fun i hi => by rw [upd2_ne (by omega)]; exact kz2 i hi) (fun i j h9 h8 h7 => by by_cases e9 : i = fr ∧ j = fr + (sz - 1); (obtain ⟨rfl, rfl⟩ := e9; unfold rgK; rw [upd2_eq, rgM_ext (l2 := l2) _ (fun d hd => ⟨upd2_ne (by omega), upd2_ne (by omega)⟩)]); (exact rgK_up (kd2 i j h9 h8 (by omega)) (by omega) e9 (by omega) h9)) (by omega)
        exact loop_15 (9 - 0 + 1) Fh7 (0) (l1) h0 h1 h2 hl hw hag (by omega) (kz) (fun i j h9 h8 h7 => kd i j h9 h8 (by omega)) (by omega)
  exact loop_7 (9 - 2 + 1) F1 (2) (l) h0 h1 h2 hl hw hag (by omega) (hz) (fun i j h9 h8 h7 => absurd h7 (by omega)) (by omega)

