/-! what the model keeps ahead of a text -/
theorem ka1 (τ : S7) (f0 : Nat → Int32) : ∃ z, loopF (fX7_keepsAhead_L32 τ) 5000 (nI 0, f0) = some z ∧ (∀ j, j < 3 → z.2 j = f0 j) ∧ (∀ p, p < 12 → z.2 (4 + p) = τ.2.2.2.1 p) ∧ (∀ p, p < 12 → z.2 (16 + p) = τ.2.2.2.2.1 p) := by
  exact loopI (step := fX7_keepsAhead_L32 τ) (fun i (q : Int32 × (Nat → Int32)) => q.1 = nI i ∧ (∀ j, j < 3 → q.2 j = f0 j) ∧ (∀ p, p < i → q.2 (4 + p) = τ.2.2.2.1 p) ∧ (∀ p, p < i → q.2 (16 + p) = τ.2.2.2.2.1 p)) (fun q => (∀ j, j < 3 → q.2 j = f0 j) ∧ (∀ p, p < 12 → q.2 (4 + p) = τ.2.2.2.1 p) ∧ (∀ p, p < 12 → q.2 (16 + p) = τ.2.2.2.2.1 p)) 12 (F := 5000) (by omega) (s0 := (nI 0, f0)) ⟨rfl, fun _ _ => rfl, fun p hp => absurd hp (by omega), fun p hp => absurd hp (by omega)⟩
    (by
      rintro i ⟨x, f⟩ hi ⟨rfl, i1, i2, i3⟩
      refine ⟨(nI (i + 1), upd (upd f (4 + i) (τ.2.2.2.1 i)) (16 + i) (τ.2.2.2.2.1 i)), ?_, rfl, fun j hj => ?_, fun p hp => ?_, fun p hp => ?_⟩
      · simp (disch := omega) only [fX7_keepsAhead_L32, l_0, l_1, l_2, l_3, l_4, l_5, l_6, l_7, l_8, l_9, l_10, l_11, l_12, l_13, l_14, l_15, l_16, l_17, l_18, l_19, l_20, l_21, l_24, l_28, l_31, l_32, l_33, l_45, l_47, l_48, l_57, l_59, l_84, l_95, l_96, l_100, l_112, l_119, l_120, l_127, l_140, l_700, l_840, l_999, l_4095, l_999999, ↓l_m1, ↓l_m2, ↓l_m3, ↓l_m4, ↓l_m10, ↓l_m10000, nI_leI, nI_ltI, nI_eq, mI_le, mI_lt, le_mI, lt_mI, mI_eq, eq_mI, nI_add, pk_mul, pk_sub, pk_div, nI_clamp, md_eq, Nat.zero_le, true_and, and_true, and_self, if_pos, if_neg, Option.bind_some, bnd_some, Sum.elim_inl, Sum.elim_inr, ↓reduceIte]
      · show upd (upd f _ _) _ _ j = _
        rw [upd_ne _ _ _ _ (by omega), upd_ne _ _ _ _ (by omega)]
        exact i1 j hj
      · show upd (upd f _ _) _ _ (4 + p) = _
        rw [upd_ne _ _ _ _ (by omega)]
        by_cases hpi : p = i
        · subst hpi; exact upd_same _ _ _
        · rw [upd_ne _ _ _ _ (by omega)]; exact i2 p (by omega)
      · show upd (upd f _ _) _ _ (16 + p) = _
        by_cases hpi : p = i
        · subst hpi; exact upd_same _ _ _
        · rw [upd_ne _ _ _ _ (by omega), upd_ne _ _ _ _ (by omega)]; exact i3 p (by omega))
    (by
      rintro ⟨x, f⟩ ⟨rfl, i1, i2, i3⟩
      refine ⟨(nI 12, f), ?_, i1, i2, i3⟩
      simp (disch := omega) only [fX7_keepsAhead_L32, l_0, l_1, l_2, l_3, l_4, l_5, l_6, l_7, l_8, l_9, l_10, l_11, l_12, l_13, l_14, l_15, l_16, l_17, l_18, l_19, l_20, l_21, l_24, l_28, l_31, l_32, l_33, l_45, l_47, l_48, l_57, l_59, l_84, l_95, l_96, l_100, l_112, l_119, l_120, l_127, l_140, l_700, l_840, l_999, l_4095, l_999999, ↓l_m1, ↓l_m2, ↓l_m3, ↓l_m4, ↓l_m10, ↓l_m10000, nI_leI, nI_ltI, nI_eq, mI_le, mI_lt, le_mI, lt_mI, mI_eq, eq_mI, nI_add, pk_mul, pk_sub, pk_div, nI_clamp, md_eq, Nat.zero_le, true_and, and_true, and_self, if_pos, if_neg, Option.bind_some, bnd_some, Sum.elim_inl, Sum.elim_inr, ↓reduceIte])
theorem ka2 (τ : S7) (z : Int32 × (Nat → Int32)) : ∃ y, loopF (fX7_keepsAhead_L75 τ) 5000 (nI 0, z.2) = some y ∧ (∀ j, j < 28 → y.2 j = z.2 j) ∧ (∀ p, p < 96 → y.2 (28 + p) = τ.2.1 p) := by
  exact loopI (step := fX7_keepsAhead_L75 τ) (fun i (q : Int32 × (Nat → Int32)) => q.1 = nI i ∧ (∀ j, j < 28 → q.2 j = z.2 j) ∧ (∀ p, p < i → q.2 (28 + p) = τ.2.1 p)) (fun q => (∀ j, j < 28 → q.2 j = z.2 j) ∧ (∀ p, p < 96 → q.2 (28 + p) = τ.2.1 p)) 96 (F := 5000) (by omega) (s0 := (nI 0, z.2)) ⟨rfl, fun _ _ => rfl, fun p hp => absurd hp (by omega)⟩
    (by
      rintro i ⟨x, f⟩ hi ⟨rfl, i1, i2⟩
      refine ⟨(nI (i + 1), upd f (28 + i) (τ.2.1 i)), ?_, rfl, fun j hj => ?_, fun p hp => ?_⟩
      · simp (disch := omega) only [fX7_keepsAhead_L75, l_0, l_1, l_2, l_3, l_4, l_5, l_6, l_7, l_8, l_9, l_10, l_11, l_12, l_13, l_14, l_15, l_16, l_17, l_18, l_19, l_20, l_21, l_24, l_28, l_31, l_32, l_33, l_45, l_47, l_48, l_57, l_59, l_84, l_95, l_96, l_100, l_112, l_119, l_120, l_127, l_140, l_700, l_840, l_999, l_4095, l_999999, ↓l_m1, ↓l_m2, ↓l_m3, ↓l_m4, ↓l_m10, ↓l_m10000, nI_leI, nI_ltI, nI_eq, mI_le, mI_lt, le_mI, lt_mI, mI_eq, eq_mI, nI_add, pk_mul, pk_sub, pk_div, nI_clamp, md_eq, Nat.zero_le, true_and, and_true, and_self, if_pos, if_neg, Option.bind_some, bnd_some, Sum.elim_inl, Sum.elim_inr, ↓reduceIte]
      · show upd f _ _ j = _
        rw [upd_ne _ _ _ _ (by omega)]
        exact i1 j hj
      · show upd f _ _ (28 + p) = _
        by_cases hpi : p = i
        · subst hpi; exact upd_same _ _ _
        · rw [upd_ne _ _ _ _ (by omega)]; exact i2 p (by omega))
    (by
      rintro ⟨x, f⟩ ⟨rfl, i1, i2⟩
      refine ⟨(nI 96, f), ?_, i1, i2⟩
      simp (disch := omega) only [fX7_keepsAhead_L75, l_0, l_1, l_2, l_3, l_4, l_5, l_6, l_7, l_8, l_9, l_10, l_11, l_12, l_13, l_14, l_15, l_16, l_17, l_18, l_19, l_20, l_21, l_24, l_28, l_31, l_32, l_33, l_45, l_47, l_48, l_57, l_59, l_84, l_95, l_96, l_100, l_112, l_119, l_120, l_127, l_140, l_700, l_840, l_999, l_4095, l_999999, ↓l_m1, ↓l_m2, ↓l_m3, ↓l_m4, ↓l_m10, ↓l_m10000, nI_leI, nI_ltI, nI_eq, mI_le, mI_lt, le_mI, lt_mI, mI_eq, eq_mI, nI_add, pk_mul, pk_sub, pk_div, nI_clamp, md_eq, Nat.zero_le, true_and, and_true, and_self, if_pos, if_neg, Option.bind_some, bnd_some, Sum.elim_inl, Sum.elim_inr, ↓reduceIte])
theorem ka3 (τ : S7) : ∃ v, loopF (fX7_keepsAhead_L112 τ) 5000 (nI 0, τ.2.2.2.2.2.2.2.2.2.2.2.2.2.2.2.2.2.2.2.2.2.1) = some v ∧ ∀ p, p < 13 → v.2 p = τ.2.2.2.2.2.2.2.2.2.2.2.2.2.2.1 p := by
  exact loopI (step := fX7_keepsAhead_L112 τ) (fun i (q : Int32 × (Nat → Int32)) => q.1 = nI i ∧ (∀ p, p < i → q.2 p = τ.2.2.2.2.2.2.2.2.2.2.2.2.2.2.1 p)) (fun q => ∀ p, p < 13 → q.2 p = τ.2.2.2.2.2.2.2.2.2.2.2.2.2.2.1 p) 13 (F := 5000) (by omega) (s0 := (nI 0, τ.2.2.2.2.2.2.2.2.2.2.2.2.2.2.2.2.2.2.2.2.2.1)) ⟨rfl, fun p hp => absurd hp (by omega)⟩
    (by
      rintro i ⟨x, f⟩ hi ⟨rfl, i2⟩
      refine ⟨(nI (i + 1), upd f i (τ.2.2.2.2.2.2.2.2.2.2.2.2.2.2.1 i)), ?_, rfl, fun p hp => ?_⟩
      · simp (disch := omega) only [fX7_keepsAhead_L112, l_0, l_1, l_2, l_3, l_4, l_5, l_6, l_7, l_8, l_9, l_10, l_11, l_12, l_13, l_14, l_15, l_16, l_17, l_18, l_19, l_20, l_21, l_24, l_28, l_31, l_32, l_33, l_45, l_47, l_48, l_57, l_59, l_84, l_95, l_96, l_100, l_112, l_119, l_120, l_127, l_140, l_700, l_840, l_999, l_4095, l_999999, ↓l_m1, ↓l_m2, ↓l_m3, ↓l_m4, ↓l_m10, ↓l_m10000, nI_leI, nI_ltI, nI_eq, mI_le, mI_lt, le_mI, lt_mI, mI_eq, eq_mI, nI_add, pk_mul, pk_sub, pk_div, nI_clamp, md_eq, Nat.zero_le, true_and, and_true, and_self, if_pos, if_neg, Option.bind_some, bnd_some, Sum.elim_inl, Sum.elim_inr, ↓reduceIte]
      · show upd f _ _ p = _
        by_cases hpi : p = i
        · subst hpi; exact upd_same _ _ _
        · rw [upd_ne _ _ _ _ (by omega)]; exact i2 p (by omega))
    (by
      rintro ⟨x, f⟩ ⟨rfl, i2⟩
      refine ⟨(nI 13, f), ?_, i2⟩
      simp (disch := omega) only [fX7_keepsAhead_L112, l_0, l_1, l_2, l_3, l_4, l_5, l_6, l_7, l_8, l_9, l_10, l_11, l_12, l_13, l_14, l_15, l_16, l_17, l_18, l_19, l_20, l_21, l_24, l_28, l_31, l_32, l_33, l_45, l_47, l_48, l_57, l_59, l_84, l_95, l_96, l_100, l_112, l_119, l_120, l_127, l_140, l_700, l_840, l_999, l_4095, l_999999, ↓l_m1, ↓l_m2, ↓l_m3, ↓l_m4, ↓l_m10, ↓l_m10000, nI_leI, nI_ltI, nI_eq, mI_le, mI_lt, le_mI, lt_mI, mI_eq, eq_mI, nI_add, pk_mul, pk_sub, pk_div, nI_clamp, md_eq, Nat.zero_le, true_and, and_true, and_self, if_pos, if_neg, Option.bind_some, bnd_some, Sum.elim_inl, Sum.elim_inr, ↓reduceIte])
theorem ka4 (τ : S7) {z y v : Int32 × (Nat → Int32)} (e1 : loopF (fX7_keepsAhead_L32 τ) 5000 (nI 0, upd (upd (upd τ.2.2.2.2.2.2.2.2.2.2.2.2.2.2.2.2.2.2.2.2.2.2 0 τ.2.2.1) 1 τ.2.2.2.2.2.1) 2 τ.2.2.2.2.2.2.1) = some z) (e5 : loopF (fX7_keepsAhead_L75 τ) 5000 (nI 0, z.2) = some y) (e8 : loopF (fX7_keepsAhead_L112 τ) 5000 (nI 0, τ.2.2.2.2.2.2.2.2.2.2.2.2.2.2.2.2.2.2.2.2.2.1) = some v) : fX7_keepsAhead τ = some (τ.1, τ.2.1, τ.2.2.1, τ.2.2.2.1, τ.2.2.2.2.1, τ.2.2.2.2.2.1, τ.2.2.2.2.2.2.1, τ.2.2.2.2.2.2.2.1, τ.2.2.2.2.2.2.2.2.1, τ.2.2.2.2.2.2.2.2.2.1, τ.2.2.2.2.2.2.2.2.2.2.1, τ.2.2.2.2.2.2.2.2.2.2.2.1, τ.2.2.2.2.2.2.2.2.2.2.2.2.1, τ.2.2.2.2.2.2.2.2.2.2.2.2.2.1, τ.2.2.2.2.2.2.2.2.2.2.2.2.2.2.1, τ.2.2.2.2.2.2.2.2.2.2.2.2.2.2.2.1, τ.2.2.2.2.2.2.2.2.2.2.2.2.2.2.2.2.1, τ.2.2.2.2.2.2.2.2.2.2.2.2.2.2.2.2.2.1, τ.2.2.2.2.2.2.2.2.2.2.2.2.2.2.2.2.2.2.1, τ.2.2.2.2.2.2.2.2.2.2.2.2.2.2.2.2.2.2.2.1, τ.2.2.2.2.2.2.2.2.2.2.2.2.2.1, v.2, y.2) := by
  have c1 : (1 : Int32).toNatClampNeg = 1 := by decide
  have c2 : (2 : Int32).toNatClampNeg = 2 := by decide
  have g0 : 0 ≤ (0 : Int32) ∧ 0 < 140 := by decide
  have g1 : 0 ≤ (1 : Int32) ∧ 1 < 140 := by decide
  have g2 : 0 ≤ (2 : Int32) ∧ 2 < 140 := by decide
  unfold fX7_keepsAhead
  rw [c0, c1, c2, if_pos g0, if_pos g1, if_pos g2, l_0, e1, bnd_some, e5, bnd_some, e8, bnd_some]
theorem ka5 {f0 y : Nat → Int32} (τ : S7) (hf0 : f0 = upd (upd (upd τ.2.2.2.2.2.2.2.2.2.2.2.2.2.2.2.2.2.2.2.2.2.2 0 τ.2.2.1) 1 τ.2.2.2.2.2.1) 2 τ.2.2.2.2.2.2.1) (h : ∀ j, j < 3 → y j = f0 j) : y 0 = τ.2.2.1 ∧ y 1 = τ.2.2.2.2.2.1 ∧ y 2 = τ.2.2.2.2.2.2.1 := by
  refine ⟨?_, ?_, ?_⟩
  · rw [h 0 (by omega), hf0, upd_ne _ _ _ _ (by omega), upd_ne _ _ _ _ (by omega), upd_same]
  · rw [h 1 (by omega), hf0, upd_ne _ _ _ _ (by omega), upd_same]
  · rw [h 2 (by omega), hf0, upd_same]
theorem keepsAhead_ok {τ : S7} {M : AM} (h : TR τ M) (hM : OK M) : ∃ g f, fX7_keepsAhead τ = some (τ.1, τ.2.1, τ.2.2.1, τ.2.2.2.1, τ.2.2.2.2.1, τ.2.2.2.2.2.1, τ.2.2.2.2.2.2.1, τ.2.2.2.2.2.2.2.1, τ.2.2.2.2.2.2.2.2.1, τ.2.2.2.2.2.2.2.2.2.1, τ.2.2.2.2.2.2.2.2.2.2.1, τ.2.2.2.2.2.2.2.2.2.2.2.1, τ.2.2.2.2.2.2.2.2.2.2.2.2.1, τ.2.2.2.2.2.2.2.2.2.2.2.2.2.1, τ.2.2.2.2.2.2.2.2.2.2.2.2.2.2.1, τ.2.2.2.2.2.2.2.2.2.2.2.2.2.2.2.1, τ.2.2.2.2.2.2.2.2.2.2.2.2.2.2.2.2.1, τ.2.2.2.2.2.2.2.2.2.2.2.2.2.2.2.2.2.1, τ.2.2.2.2.2.2.2.2.2.2.2.2.2.2.2.2.2.2.1, τ.2.2.2.2.2.2.2.2.2.2.2.2.2.2.2.2.2.2.2.1, τ.2.2.2.2.2.2.2.2.2.2.2.2.2.1, g, f) ∧ KR f 0 M ∧ ∀ k, k < 13 → g k = τ.2.2.2.2.2.2.2.2.2.2.2.2.2.2.1 k := by
  obtain ⟨h1, h2, h3, h4, h5, h6⟩ := h
  have hn := hM.1
  obtain ⟨z, e1, e2, e3, e4⟩ := ka1 τ (upd (upd (upd τ.2.2.2.2.2.2.2.2.2.2.2.2.2.2.2.2.2.2.2.2.2.2 0 τ.2.2.1) 1 τ.2.2.2.2.2.1) 2 τ.2.2.2.2.2.2.1)
  obtain ⟨y, e5, e6, e7⟩ := ka2 τ z
  obtain ⟨v, e8, e9⟩ := ka3 τ
  obtain ⟨k1, k2, k3⟩ := ka5 (y := y.2) τ rfl (fun j hj => (e6 j (by omega)).trans (e2 j hj))
  refine ⟨v.2, y.2, ka4 τ e1 e5 e8, ⟨k1.trans h1, ?_, ?_, fun p hp => ?_, fun p hp => ?_, fun c hc => ?_⟩, e9⟩
  · rw [Nat.zero_add, k2]; exact h4
  · rw [Nat.zero_add, k3]; exact h5
  · rw [show 0 + 4 + p = 4 + p by omega, e6 (4 + p) (by omega), e3 p (by omega)]; exact h2 p hp
  · rw [show 0 + 16 + p = 16 + p by omega, e6 (16 + p) (by omega), e4 p (by omega)]; exact h3 p hp
  · rw [show 0 + 28 + c = 28 + c by omega, e7 c hc]; exact h6 c hc
