/-! numbers and ends, both sides -/
def NumOK (tx : Nat → Nat) (b d mx : Nat) : Prop := 1 ≤ d ∧ d ≤ 3 ∧ vl tx b d ≤ mx
theorem Dg_le {tl : Nat} {tx : Nat → Nat} {b d : Nat} (h : Dg tl tx b d) (hl : tl ≤ 120) : d ≤ 120 ∧ (d = 0 ∨ b + d ≤ tl) := by
  by_cases h0 : d = 0
  · exact ⟨by omega, Or.inl h0⟩
  · have := (h.1 (d - 1) (by omega)).1
    exact ⟨by omega, Or.inr (by omega)⟩
theorem PT_at {t : S4} {tl : Nat} {tx : Nat → Nat} {a r : Nat} {F : Int32} (h : PT t tl tx a F) : PT (t.1, t.2.1, nI r, t.2.2.2) tl tx r F := ⟨h.1, h.2.1, rfl, h.2.2.2⟩
theorem num_c1 {t : S4} {tl : Nat} {tx : Nat → Nat} {a b d mx : Nat} (hx : TX tl tx) (h : PT t tl tx a mI) (ha : a ≤ 125) (hmx : mx ≤ 999) (hs : Sk tl tx a b) (hd : Dg tl tx b d) (hok : NumOK tx b d mx) : fX4_readNumber t (nI mx) = some (nI (vl tx b d), t.1, t.2.1, nI (b + d), mI, nI b) := by
  have hl := hx.1
  obtain ⟨s1, s2, s3, s4⟩ := hs
  have hdl := Dg_le hd hl
  have e1 := skip_c hx h (by omega) ⟨s1, s2, s3, s4⟩
  obtain ⟨x, e2, e3⟩ := num_loop_c hx (PT_at (r := b) h) (by omega) hd hdl.1
  obtain ⟨o1, o2, o3⟩ := hok
  have hx3 := e3 o2
  subst hx3
  have hF := h.2.2.2
  have hv := vl_999 hd (Nat.le_refl d) o2
  simp (disch := omega) only [fX4_readNumber, e1, l_0, e2, hF, Nat.add_sub_cancel_left, l_0, l_1, l_2, l_3, l_4, l_5, l_6, l_7, l_8, l_9, l_10, l_11, l_12, l_13, l_14, l_15, l_16, l_17, l_18, l_19, l_20, l_21, l_24, l_28, l_31, l_32, l_33, l_45, l_47, l_48, l_57, l_59, l_84, l_95, l_96, l_100, l_112, l_119, l_120, l_127, l_140, l_700, l_840, l_999, l_4095, l_999999, ↓l_m1, ↓l_m2, ↓l_m3, ↓l_m4, ↓l_m10, ↓l_m10000, nI_leI, nI_ltI, nI_eq, mI_le, mI_lt, le_mI, lt_mI, mI_eq, eq_mI, nI_add, pk_mul, pk_sub, pk_div, nI_clamp, md_eq, Nat.zero_le, true_and, and_true, and_self, if_pos, if_neg, Option.bind_some, bnd_some, Sum.elim_inl, Sum.elim_inr, ↓reduceIte]
theorem num_c2 {t : S4} {tl : Nat} {tx : Nat → Nat} {a b d mx : Nat} (hx : TX tl tx) (h : PT t tl tx a mI) (ha : a ≤ 125) (hmx : mx ≤ 999) (hs : Sk tl tx a b) (hd : Dg tl tx b d) (hok : ¬ NumOK tx b d mx) : fX4_readNumber t (nI mx) = some (nI 0, t.1, t.2.1, nI (b + d), nI b, nI b) := by
  have hl := hx.1
  obtain ⟨s1, s2, s3, s4⟩ := hs
  have hdl := Dg_le hd hl
  have e1 := skip_c hx h (by omega) ⟨s1, s2, s3, s4⟩
  obtain ⟨x, e2, e3⟩ := num_loop_c hx (PT_at (r := b) h) (by omega) hd hdl.1
  have hF := h.2.2.2
  by_cases o1 : d < 1
  · simp (disch := omega) only [fX4_readNumber, fX4_fail, e1, l_0, e2, hF, Nat.add_sub_cancel_left, l_0, l_1, l_2, l_3, l_4, l_5, l_6, l_7, l_8, l_9, l_10, l_11, l_12, l_13, l_14, l_15, l_16, l_17, l_18, l_19, l_20, l_21, l_24, l_28, l_31, l_32, l_33, l_45, l_47, l_48, l_57, l_59, l_84, l_95, l_96, l_100, l_112, l_119, l_120, l_127, l_140, l_700, l_840, l_999, l_4095, l_999999, ↓l_m1, ↓l_m2, ↓l_m3, ↓l_m4, ↓l_m10, ↓l_m10000, nI_leI, nI_ltI, nI_eq, mI_le, mI_lt, le_mI, lt_mI, mI_eq, eq_mI, nI_add, pk_mul, pk_sub, pk_div, nI_clamp, md_eq, Nat.zero_le, true_and, and_true, and_self, if_pos, if_neg, Option.bind_some, bnd_some, Sum.elim_inl, Sum.elim_inr, ↓reduceIte]
  · by_cases o2 : 3 < d
    · simp (disch := omega) only [fX4_readNumber, fX4_fail, e1, l_0, e2, hF, Nat.add_sub_cancel_left, l_0, l_1, l_2, l_3, l_4, l_5, l_6, l_7, l_8, l_9, l_10, l_11, l_12, l_13, l_14, l_15, l_16, l_17, l_18, l_19, l_20, l_21, l_24, l_28, l_31, l_32, l_33, l_45, l_47, l_48, l_57, l_59, l_84, l_95, l_96, l_100, l_112, l_119, l_120, l_127, l_140, l_700, l_840, l_999, l_4095, l_999999, ↓l_m1, ↓l_m2, ↓l_m3, ↓l_m4, ↓l_m10, ↓l_m10000, nI_leI, nI_ltI, nI_eq, mI_le, mI_lt, le_mI, lt_mI, mI_eq, eq_mI, nI_add, pk_mul, pk_sub, pk_div, nI_clamp, md_eq, Nat.zero_le, true_and, and_true, and_self, if_pos, if_neg, Option.bind_some, bnd_some, Sum.elim_inl, Sum.elim_inr, ↓reduceIte]
    · have hx3 := e3 (by omega)
      subst hx3
      have hv := vl_999 hd (Nat.le_refl d) (by omega)
      have o3 : ¬ vl tx b d ≤ mx := fun q => hok ⟨by omega, by omega, q⟩
      simp (disch := omega) only [fX4_readNumber, fX4_fail, e1, l_0, e2, hF, Nat.add_sub_cancel_left, l_0, l_1, l_2, l_3, l_4, l_5, l_6, l_7, l_8, l_9, l_10, l_11, l_12, l_13, l_14, l_15, l_16, l_17, l_18, l_19, l_20, l_21, l_24, l_28, l_31, l_32, l_33, l_45, l_47, l_48, l_57, l_59, l_84, l_95, l_96, l_100, l_112, l_119, l_120, l_127, l_140, l_700, l_840, l_999, l_4095, l_999999, ↓l_m1, ↓l_m2, ↓l_m3, ↓l_m4, ↓l_m10, ↓l_m10000, nI_leI, nI_ltI, nI_eq, mI_le, mI_lt, le_mI, lt_mI, mI_eq, eq_mI, nI_add, pk_mul, pk_sub, pk_div, nI_clamp, md_eq, Nat.zero_le, true_and, and_true, and_self, if_pos, if_neg, Option.bind_some, bnd_some, Sum.elim_inl, Sum.elim_inr, ↓reduceIte]
theorem num_c3 {t : S4} {tl : Nat} {tx : Nat → Nat} {a b d mx f : Nat} (hx : TX tl tx) (h : PT t tl tx a (nI f)) (hf : f ≤ 125) (ha : a ≤ 125) (hmx : mx ≤ 999) (hs : Sk tl tx a b) (hd : Dg tl tx b d) : fX4_readNumber t (nI mx) = some (nI 0, t.1, t.2.1, nI (b + d), nI f, nI b) := by
  have hl := hx.1
  obtain ⟨s1, s2, s3, s4⟩ := hs
  have hdl := Dg_le hd hl
  have e1 := skip_c hx h (by omega) ⟨s1, s2, s3, s4⟩
  obtain ⟨x, e2, e3⟩ := num_loop_c hx (PT_at (r := b) h) (by omega) hd hdl.1
  have hF := h.2.2.2
  by_cases o1 : d < 1
  · simp (disch := omega) only [fX4_readNumber, fX4_fail, e1, l_0, e2, hF, Nat.add_sub_cancel_left, l_0, l_1, l_2, l_3, l_4, l_5, l_6, l_7, l_8, l_9, l_10, l_11, l_12, l_13, l_14, l_15, l_16, l_17, l_18, l_19, l_20, l_21, l_24, l_28, l_31, l_32, l_33, l_45, l_47, l_48, l_57, l_59, l_84, l_95, l_96, l_100, l_112, l_119, l_120, l_127, l_140, l_700, l_840, l_999, l_4095, l_999999, ↓l_m1, ↓l_m2, ↓l_m3, ↓l_m4, ↓l_m10, ↓l_m10000, nI_leI, nI_ltI, nI_eq, mI_le, mI_lt, le_mI, lt_mI, mI_eq, eq_mI, nI_add, pk_mul, pk_sub, pk_div, nI_clamp, md_eq, Nat.zero_le, true_and, and_true, and_self, if_pos, if_neg, Option.bind_some, bnd_some, Sum.elim_inl, Sum.elim_inr, ↓reduceIte]
  · by_cases o2 : 3 < d
    · simp (disch := omega) only [fX4_readNumber, fX4_fail, e1, l_0, e2, hF, Nat.add_sub_cancel_left, l_0, l_1, l_2, l_3, l_4, l_5, l_6, l_7, l_8, l_9, l_10, l_11, l_12, l_13, l_14, l_15, l_16, l_17, l_18, l_19, l_20, l_21, l_24, l_28, l_31, l_32, l_33, l_45, l_47, l_48, l_57, l_59, l_84, l_95, l_96, l_100, l_112, l_119, l_120, l_127, l_140, l_700, l_840, l_999, l_4095, l_999999, ↓l_m1, ↓l_m2, ↓l_m3, ↓l_m4, ↓l_m10, ↓l_m10000, nI_leI, nI_ltI, nI_eq, mI_le, mI_lt, le_mI, lt_mI, mI_eq, eq_mI, nI_add, pk_mul, pk_sub, pk_div, nI_clamp, md_eq, Nat.zero_le, true_and, and_true, and_self, if_pos, if_neg, Option.bind_some, bnd_some, Sum.elim_inl, Sum.elim_inr, ↓reduceIte]
    · have hx3 := e3 (by omega)
      subst hx3
      have hv := vl_999 hd (Nat.le_refl d) (by omega)
      by_cases o3 : vl tx b d ≤ mx
      · simp (disch := omega) only [fX4_readNumber, fX4_fail, e1, l_0, e2, hF, Nat.add_sub_cancel_left, l_0, l_1, l_2, l_3, l_4, l_5, l_6, l_7, l_8, l_9, l_10, l_11, l_12, l_13, l_14, l_15, l_16, l_17, l_18, l_19, l_20, l_21, l_24, l_28, l_31, l_32, l_33, l_45, l_47, l_48, l_57, l_59, l_84, l_95, l_96, l_100, l_112, l_119, l_120, l_127, l_140, l_700, l_840, l_999, l_4095, l_999999, ↓l_m1, ↓l_m2, ↓l_m3, ↓l_m4, ↓l_m10, ↓l_m10000, nI_leI, nI_ltI, nI_eq, mI_le, mI_lt, le_mI, lt_mI, mI_eq, eq_mI, nI_add, pk_mul, pk_sub, pk_div, nI_clamp, md_eq, Nat.zero_le, true_and, and_true, and_self, if_pos, if_neg, Option.bind_some, bnd_some, Sum.elim_inl, Sum.elim_inr, ↓reduceIte]
      · simp (disch := omega) only [fX4_readNumber, fX4_fail, e1, l_0, e2, hF, Nat.add_sub_cancel_left, l_0, l_1, l_2, l_3, l_4, l_5, l_6, l_7, l_8, l_9, l_10, l_11, l_12, l_13, l_14, l_15, l_16, l_17, l_18, l_19, l_20, l_21, l_24, l_28, l_31, l_32, l_33, l_45, l_47, l_48, l_57, l_59, l_84, l_95, l_96, l_100, l_112, l_119, l_120, l_127, l_140, l_700, l_840, l_999, l_4095, l_999999, ↓l_m1, ↓l_m2, ↓l_m3, ↓l_m4, ↓l_m10, ↓l_m10000, nI_leI, nI_ltI, nI_eq, mI_le, mI_lt, le_mI, lt_mI, mI_eq, eq_mI, nI_add, pk_mul, pk_sub, pk_div, nI_clamp, md_eq, Nat.zero_le, true_and, and_true, and_self, if_pos, if_neg, Option.bind_some, bnd_some, Sum.elim_inl, Sum.elim_inr, ↓reduceIte]
theorem num_m {τ : S7} {tl : Nat} {tx : Nat → Nat} {a b d mx : Nat} (hx : TX tl tx) (h : PM τ tl tx a) (ha : a ≤ 125) (hmx : mx ≤ 999) (hs : Sk tl tx a b) (hd : Dg tl tx b d) : (NumOK tx b d mx → fX7_readsNumber τ (nI mx) = some (nI 1, (τ.1, τ.2.1, τ.2.2.1, τ.2.2.2.1, τ.2.2.2.2.1, τ.2.2.2.2.2.1, τ.2.2.2.2.2.2.1, τ.2.2.2.2.2.2.2.1, τ.2.2.2.2.2.2.2.2.1, τ.2.2.2.2.2.2.2.2.2.1, τ.2.2.2.2.2.2.2.2.2.2.1, τ.2.2.2.2.2.2.2.2.2.2.2.1, τ.2.2.2.2.2.2.2.2.2.2.2.2.1, τ.2.2.2.2.2.2.2.2.2.2.2.2.2.1, τ.2.2.2.2.2.2.2.2.2.2.2.2.2.2.1, τ.2.2.2.2.2.2.2.2.2.2.2.2.2.2.2.1, τ.2.2.2.2.2.2.2.2.2.2.2.2.2.2.2.2.1, nI (b + d), nI (vl tx b d), τ.2.2.2.2.2.2.2.2.2.2.2.2.2.2.2.2.2.2.2))) ∧ (¬ NumOK tx b d mx → ∃ v, fX7_readsNumber τ (nI mx) = some (nI 0, (τ.1, τ.2.1, τ.2.2.1, τ.2.2.2.1, τ.2.2.2.2.1, τ.2.2.2.2.2.1, τ.2.2.2.2.2.2.1, τ.2.2.2.2.2.2.2.1, τ.2.2.2.2.2.2.2.2.1, τ.2.2.2.2.2.2.2.2.2.1, τ.2.2.2.2.2.2.2.2.2.2.1, τ.2.2.2.2.2.2.2.2.2.2.2.1, τ.2.2.2.2.2.2.2.2.2.2.2.2.1, τ.2.2.2.2.2.2.2.2.2.2.2.2.2.1, τ.2.2.2.2.2.2.2.2.2.2.2.2.2.2.1, τ.2.2.2.2.2.2.2.2.2.2.2.2.2.2.2.1, τ.2.2.2.2.2.2.2.2.2.2.2.2.2.2.2.2.1, nI b, v, τ.2.2.2.2.2.2.2.2.2.2.2.2.2.2.2.2.2.2.2))) := by
  have hl := hx.1
  obtain ⟨s1, s2, s3, s4⟩ := hs
  have hdl := Dg_le hd hl
  have e1 := here_m hx h (by omega) ⟨s1, s2, s3, s4⟩
  obtain ⟨x, e2, e3⟩ := num_loop_m (τ := (τ.1, τ.2.1, τ.2.2.1, τ.2.2.2.1, τ.2.2.2.2.1, τ.2.2.2.2.2.1, τ.2.2.2.2.2.2.1, τ.2.2.2.2.2.2.2.1, τ.2.2.2.2.2.2.2.2.1, τ.2.2.2.2.2.2.2.2.2.1, τ.2.2.2.2.2.2.2.2.2.2.1, τ.2.2.2.2.2.2.2.2.2.2.2.1, τ.2.2.2.2.2.2.2.2.2.2.2.2.1, τ.2.2.2.2.2.2.2.2.2.2.2.2.2.1, τ.2.2.2.2.2.2.2.2.2.2.2.2.2.2.1, τ.2.2.2.2.2.2.2.2.2.2.2.2.2.2.2.1, τ.2.2.2.2.2.2.2.2.2.2.2.2.2.2.2.2.1, nI b, τ.2.2.2.2.2.2.2.2.2.2.2.2.2.2.2.2.2.2)) (c := if tl ≤ b then mI else nI (tx b)) hx ⟨h.1, h.2.1, rfl⟩ (by omega) hd hdl.1
  have hin : fX7_in (if tl ≤ b then mI else nI (tx b)) (nI 48) (nI 57) = some (if 1 ≤ d then nI 1 else nI 0) := by
    by_cases hge : tl ≤ b
    · rw [if_pos hge]
      have hd0 : ¬ 1 ≤ d := fun q => by have := (hd.1 0 (by omega)).1; omega
      rw [if_neg hd0]
      decide
    · rw [if_neg hge]
      have hxr := hx.2 b (by omega)
      by_cases hd0 : 1 ≤ d
      · rw [if_pos hd0]
        exact in_dgt hxr (hd.1 0 (by omega)).2
      · rw [if_neg hd0]
        have : d = 0 := by omega
        subst this
        refine in_ndgt hxr ?_
        rcases hd.2 with q | q
        · omega
        · exact q
  obtain ⟨C, hC⟩ : ∃ C, C = if tl ≤ b then mI else nI (tx b) := ⟨_, rfl⟩
  rw [← hC] at e1 e2 hin
  constructor
  · rintro ⟨o1, o2, o3⟩
    have hx3 := e3 o2
    subst hx3
    have hv := vl_999 hd (Nat.le_refl d) o2
    rw [if_pos o1] at hin
    unfold fX7_readsNumber
    rw [e1, bnd_some]
    simp (disch := omega) only [hin, e2, l_0, l_1, l_2, l_3, l_4, l_5, l_6, l_7, l_8, l_9, l_10, l_11, l_12, l_13, l_14, l_15, l_16, l_17, l_18, l_19, l_20, l_21, l_24, l_28, l_31, l_32, l_33, l_45, l_47, l_48, l_57, l_59, l_84, l_95, l_96, l_100, l_112, l_119, l_120, l_127, l_140, l_700, l_840, l_999, l_4095, l_999999, ↓l_m1, ↓l_m2, ↓l_m3, ↓l_m4, ↓l_m10, ↓l_m10000, nI_leI, nI_ltI, nI_eq, mI_le, mI_lt, le_mI, lt_mI, mI_eq, eq_mI, nI_add, pk_mul, pk_sub, pk_div, nI_clamp, md_eq, Nat.zero_le, true_and, and_true, and_self, if_pos, if_neg, Option.bind_some, bnd_some, Sum.elim_inl, Sum.elim_inr, ↓reduceIte]
  · intro hok
    by_cases o1 : 1 ≤ d
    · rw [if_pos o1] at hin
      by_cases o2 : 3 < d
      · refine ⟨x, ?_⟩
        unfold fX7_readsNumber
        rw [e1, bnd_some]
        simp (disch := omega) only [hin, e2, l_0, l_1, l_2, l_3, l_4, l_5, l_6, l_7, l_8, l_9, l_10, l_11, l_12, l_13, l_14, l_15, l_16, l_17, l_18, l_19, l_20, l_21, l_24, l_28, l_31, l_32, l_33, l_45, l_47, l_48, l_57, l_59, l_84, l_95, l_96, l_100, l_112, l_119, l_120, l_127, l_140, l_700, l_840, l_999, l_4095, l_999999, ↓l_m1, ↓l_m2, ↓l_m3, ↓l_m4, ↓l_m10, ↓l_m10000, nI_leI, nI_ltI, nI_eq, mI_le, mI_lt, le_mI, lt_mI, mI_eq, eq_mI, nI_add, pk_mul, pk_sub, pk_div, nI_clamp, md_eq, Nat.zero_le, true_and, and_true, and_self, if_pos, if_neg, Option.bind_some, bnd_some, Sum.elim_inl, Sum.elim_inr, ↓reduceIte]
      · have hx3 := e3 (by omega)
        subst hx3
        have hv := vl_999 hd (Nat.le_refl d) (by omega)
        have o3 : ¬ vl tx b d ≤ mx := fun q => hok ⟨by omega, by omega, q⟩
        refine ⟨nI (vl tx b d), ?_⟩
        unfold fX7_readsNumber
        rw [e1, bnd_some]
        simp (disch := omega) only [hin, e2, l_0, l_1, l_2, l_3, l_4, l_5, l_6, l_7, l_8, l_9, l_10, l_11, l_12, l_13, l_14, l_15, l_16, l_17, l_18, l_19, l_20, l_21, l_24, l_28, l_31, l_32, l_33, l_45, l_47, l_48, l_57, l_59, l_84, l_95, l_96, l_100, l_112, l_119, l_120, l_127, l_140, l_700, l_840, l_999, l_4095, l_999999, ↓l_m1, ↓l_m2, ↓l_m3, ↓l_m4, ↓l_m10, ↓l_m10000, nI_leI, nI_ltI, nI_eq, mI_le, mI_lt, le_mI, lt_mI, mI_eq, eq_mI, nI_add, pk_mul, pk_sub, pk_div, nI_clamp, md_eq, Nat.zero_le, true_and, and_true, and_self, if_pos, if_neg, Option.bind_some, bnd_some, Sum.elim_inl, Sum.elim_inr, ↓reduceIte]
    · rw [if_neg o1] at hin
      refine ⟨τ.2.2.2.2.2.2.2.2.2.2.2.2.2.2.2.2.2.2.1, ?_⟩
      unfold fX7_readsNumber
      rw [e1, bnd_some]
      simp (disch := omega) only [hin, l_0, l_1, l_2, l_3, l_4, l_5, l_6, l_7, l_8, l_9, l_10, l_11, l_12, l_13, l_14, l_15, l_16, l_17, l_18, l_19, l_20, l_21, l_24, l_28, l_31, l_32, l_33, l_45, l_47, l_48, l_57, l_59, l_84, l_95, l_96, l_100, l_112, l_119, l_120, l_127, l_140, l_700, l_840, l_999, l_4095, l_999999, ↓l_m1, ↓l_m2, ↓l_m3, ↓l_m4, ↓l_m10, ↓l_m10000, nI_leI, nI_ltI, nI_eq, mI_le, mI_lt, le_mI, lt_mI, mI_eq, eq_mI, nI_add, pk_mul, pk_sub, pk_div, nI_clamp, md_eq, Nat.zero_le, true_and, and_true, and_self, if_pos, if_neg, Option.bind_some, bnd_some, Sum.elim_inl, Sum.elim_inr, ↓reduceIte]
def FT (A : Nat) (t : S4) (tl : Nat) (tx : Nat → Nat) (f : Nat) : Prop := ∃ a, a ≤ A ∧ PT t tl tx a (nI f)
theorem Sk_le {tl : Nat} {tx : Nat → Nat} {a r : Nat} (h : Sk tl tx a r) (hl : tl ≤ 120) (ha : a ≤ 120) : r ≤ 120 := by
  obtain ⟨s1, s2, s3, s4⟩ := h
  omega
theorem num_ft {t : S4} {tl : Nat} {tx : Nat → Nat} {mx f : Nat} (hx : TX tl tx) (h : FT 120 t tl tx f) (hf : f ≤ 125) (hmx : mx ≤ 999) : ∃ t1, fX4_readNumber t (nI mx) = some (nI 0, t1) ∧ FT 120 t1 tl tx f := by
  obtain ⟨a, ha, hp⟩ := h
  have hl := hx.1
  obtain ⟨b, hs⟩ := Sk_ex tl tx 120 a (by omega)
  obtain ⟨d, hd⟩ := Dg_ex tl tx 120 b (by omega)
  have hb := Sk_le hs hl ha
  have hdl := Dg_le hd hl
  exact ⟨_, num_c3 hx hp hf (by omega) hmx hs hd, b + d, by omega, hp.1, hp.2.1, rfl, rfl⟩
theorem num_both {t : S4} {τ : S7} {tl : Nat} {tx : Nat → Nat} {a mx : Nat} (hx : TX tl tx) (h : PT t tl tx a mI) (h2 : PM τ tl tx a) (ha : a ≤ 120) (hmx : mx ≤ 999) :
    (∃ v e t1, v ≤ mx ∧ a ≤ e ∧ e ≤ tl ∧ fX4_readNumber t (nI mx) = some (nI v, t1) ∧ PT t1 tl tx e mI ∧ fX7_readsNumber τ (nI mx) = some (nI 1, (τ.1, τ.2.1, τ.2.2.1, τ.2.2.2.1, τ.2.2.2.2.1, τ.2.2.2.2.2.1, τ.2.2.2.2.2.2.1, τ.2.2.2.2.2.2.2.1, τ.2.2.2.2.2.2.2.2.1, τ.2.2.2.2.2.2.2.2.2.1, τ.2.2.2.2.2.2.2.2.2.2.1, τ.2.2.2.2.2.2.2.2.2.2.2.1, τ.2.2.2.2.2.2.2.2.2.2.2.2.1, τ.2.2.2.2.2.2.2.2.2.2.2.2.2.1, τ.2.2.2.2.2.2.2.2.2.2.2.2.2.2.1, τ.2.2.2.2.2.2.2.2.2.2.2.2.2.2.2.1, τ.2.2.2.2.2.2.2.2.2.2.2.2.2.2.2.2.1, nI e, nI v, τ.2.2.2.2.2.2.2.2.2.2.2.2.2.2.2.2.2.2.2))) ∨
    (∃ f t1 v, f ≤ 120 ∧ fX4_readNumber t (nI mx) = some (nI 0, t1) ∧ FT 120 t1 tl tx f ∧ fX7_readsNumber τ (nI mx) = some (nI 0, (τ.1, τ.2.1, τ.2.2.1, τ.2.2.2.1, τ.2.2.2.2.1, τ.2.2.2.2.2.1, τ.2.2.2.2.2.2.1, τ.2.2.2.2.2.2.2.1, τ.2.2.2.2.2.2.2.2.1, τ.2.2.2.2.2.2.2.2.2.1, τ.2.2.2.2.2.2.2.2.2.2.1, τ.2.2.2.2.2.2.2.2.2.2.2.1, τ.2.2.2.2.2.2.2.2.2.2.2.2.1, τ.2.2.2.2.2.2.2.2.2.2.2.2.2.1, τ.2.2.2.2.2.2.2.2.2.2.2.2.2.2.1, τ.2.2.2.2.2.2.2.2.2.2.2.2.2.2.2.1, τ.2.2.2.2.2.2.2.2.2.2.2.2.2.2.2.2.1, nI f, v, τ.2.2.2.2.2.2.2.2.2.2.2.2.2.2.2.2.2.2.2))) := by
  have hl := hx.1
  obtain ⟨b, hs⟩ := Sk_ex tl tx 120 a (by omega)
  obtain ⟨d, hd⟩ := Dg_ex tl tx 120 b (by omega)
  have hb := Sk_le hs hl ha
  have hdl := Dg_le hd hl
  have hm := num_m hx h2 (by omega) hmx hs hd
  rcases Classical.em (NumOK tx b d mx) with hok | hok
  · exact Or.inl ⟨vl tx b d, b + d, _, hok.2.2, by have := hs.1; omega, by have := hok.1; omega, num_c1 hx h (by omega) hmx hs hd hok, ⟨h.1, h.2.1, rfl, rfl⟩, hm.1 hok⟩
  · obtain ⟨v, hv⟩ := hm.2 hok
    exact Or.inr ⟨b, _, v, hb, num_c2 hx h (by omega) hmx hs hd hok, ⟨b + d, by omega, h.1, h.2.1, rfl, rfl⟩, hv⟩
theorem end_ft {t : S4} {tl : Nat} {tx : Nat → Nat} {f : Nat} (hx : TX tl tx) (h : FT 120 t tl tx f) (hf : f ≤ 125) : ∃ t1, fX4_readEnd t = some t1 ∧ FT 121 t1 tl tx f := by
  obtain ⟨a, ha, hp⟩ := h
  have hl := hx.1
  obtain ⟨b, hs⟩ := Sk_ex tl tx 120 a (by omega)
  have hb := Sk_le hs hl ha
  have e1 := skip_c hx hp (by omega) hs
  obtain ⟨p1, p2, p3, p4⟩ := hp
  refine ⟨(t.1, t.2.1, nI (b + 1), t.2.2.2), ?_, b + 1, by omega, p1, p2, rfl, p4⟩
  by_cases hge : tl ≤ b
  · simp (disch := omega) only [fX4_readEnd, fX4_fail, e1, p2, p4, l_0, l_1, l_2, l_3, l_4, l_5, l_6, l_7, l_8, l_9, l_10, l_11, l_12, l_13, l_14, l_15, l_16, l_17, l_18, l_19, l_20, l_21, l_24, l_28, l_31, l_32, l_33, l_45, l_47, l_48, l_57, l_59, l_84, l_95, l_96, l_100, l_112, l_119, l_120, l_127, l_140, l_700, l_840, l_999, l_4095, l_999999, ↓l_m1, ↓l_m2, ↓l_m3, ↓l_m4, ↓l_m10, ↓l_m10000, nI_leI, nI_ltI, nI_eq, mI_le, mI_lt, le_mI, lt_mI, mI_eq, eq_mI, nI_add, pk_mul, pk_sub, pk_div, nI_clamp, md_eq, Nat.zero_le, true_and, and_true, and_self, if_pos, if_neg, Option.bind_some, bnd_some, Sum.elim_inl, Sum.elim_inr, ↓reduceIte]
  · have hc := p1 b (by omega)
    have hxr := hx.2 b (by omega)
    by_cases h59 : tx b = 59
    · rw [h59] at hc
      simp (disch := omega) only [fX4_readEnd, fX4_fail, e1, p2, p4, hc, l_0, l_1, l_2, l_3, l_4, l_5, l_6, l_7, l_8, l_9, l_10, l_11, l_12, l_13, l_14, l_15, l_16, l_17, l_18, l_19, l_20, l_21, l_24, l_28, l_31, l_32, l_33, l_45, l_47, l_48, l_57, l_59, l_84, l_95, l_96, l_100, l_112, l_119, l_120, l_127, l_140, l_700, l_840, l_999, l_4095, l_999999, ↓l_m1, ↓l_m2, ↓l_m3, ↓l_m4, ↓l_m10, ↓l_m10000, nI_leI, nI_ltI, nI_eq, mI_le, mI_lt, le_mI, lt_mI, mI_eq, eq_mI, nI_add, pk_mul, pk_sub, pk_div, nI_clamp, md_eq, Nat.zero_le, true_and, and_true, and_self, if_pos, if_neg, Option.bind_some, bnd_some, Sum.elim_inl, Sum.elim_inr, ↓reduceIte]
    · simp (disch := omega) only [fX4_readEnd, fX4_fail, e1, p2, p4, hc, l_0, l_1, l_2, l_3, l_4, l_5, l_6, l_7, l_8, l_9, l_10, l_11, l_12, l_13, l_14, l_15, l_16, l_17, l_18, l_19, l_20, l_21, l_24, l_28, l_31, l_32, l_33, l_45, l_47, l_48, l_57, l_59, l_84, l_95, l_96, l_100, l_112, l_119, l_120, l_127, l_140, l_700, l_840, l_999, l_4095, l_999999, ↓l_m1, ↓l_m2, ↓l_m3, ↓l_m4, ↓l_m10, ↓l_m10000, nI_leI, nI_ltI, nI_eq, mI_le, mI_lt, le_mI, lt_mI, mI_eq, eq_mI, nI_add, pk_mul, pk_sub, pk_div, nI_clamp, md_eq, Nat.zero_le, true_and, and_true, and_self, if_pos, if_neg, Option.bind_some, bnd_some, Sum.elim_inl, Sum.elim_inr, ↓reduceIte]
theorem end_both {t : S4} {τ : S7} {tl : Nat} {tx : Nat → Nat} {a : Nat} (hx : TX tl tx) (h : PT t tl tx a mI) (h2 : PM τ tl tx a) (ha : a ≤ 120) :
    (∃ e t1, a < e ∧ e ≤ tl ∧ fX4_readEnd t = some t1 ∧ PT t1 tl tx e mI ∧ fX7_ends τ = some (nI 1, (τ.1, τ.2.1, τ.2.2.1, τ.2.2.2.1, τ.2.2.2.2.1, τ.2.2.2.2.2.1, τ.2.2.2.2.2.2.1, τ.2.2.2.2.2.2.2.1, τ.2.2.2.2.2.2.2.2.1, τ.2.2.2.2.2.2.2.2.2.1, τ.2.2.2.2.2.2.2.2.2.2.1, τ.2.2.2.2.2.2.2.2.2.2.2.1, τ.2.2.2.2.2.2.2.2.2.2.2.2.1, τ.2.2.2.2.2.2.2.2.2.2.2.2.2.1, τ.2.2.2.2.2.2.2.2.2.2.2.2.2.2.1, τ.2.2.2.2.2.2.2.2.2.2.2.2.2.2.2.1, τ.2.2.2.2.2.2.2.2.2.2.2.2.2.2.2.2.1, nI e, τ.2.2.2.2.2.2.2.2.2.2.2.2.2.2.2.2.2.2))) ∨
    (∃ f t1, f ≤ 120 ∧ fX4_readEnd t = some t1 ∧ FT 121 t1 tl tx f ∧ fX7_ends τ = some (nI 0, (τ.1, τ.2.1, τ.2.2.1, τ.2.2.2.1, τ.2.2.2.2.1, τ.2.2.2.2.2.1, τ.2.2.2.2.2.2.1, τ.2.2.2.2.2.2.2.1, τ.2.2.2.2.2.2.2.2.1, τ.2.2.2.2.2.2.2.2.2.1, τ.2.2.2.2.2.2.2.2.2.2.1, τ.2.2.2.2.2.2.2.2.2.2.2.1, τ.2.2.2.2.2.2.2.2.2.2.2.2.1, τ.2.2.2.2.2.2.2.2.2.2.2.2.2.1, τ.2.2.2.2.2.2.2.2.2.2.2.2.2.2.1, τ.2.2.2.2.2.2.2.2.2.2.2.2.2.2.2.1, τ.2.2.2.2.2.2.2.2.2.2.2.2.2.2.2.2.1, nI f, τ.2.2.2.2.2.2.2.2.2.2.2.2.2.2.2.2.2.2))) := by
  have hl := hx.1
  obtain ⟨b, hs⟩ := Sk_ex tl tx 120 a (by omega)
  have hb := Sk_le hs hl ha
  have e1 := skip_c hx h (by omega) hs
  have e2 := here_m hx h2 (by omega) hs
  obtain ⟨p1, p2, p3, p4⟩ := h
  have hsa := hs.1
  by_cases hge : tl ≤ b
  · rw [if_pos hge] at e2
    refine Or.inr ⟨b, (t.1, t.2.1, nI (b + 1), nI b, t.2.2.2.2), hb, ?_, ⟨b + 1, by omega, p1, p2, rfl, rfl⟩, ?_⟩
    · simp (disch := omega) only [fX4_readEnd, fX4_fail, e1, p2, p4, l_0, l_1, l_2, l_3, l_4, l_5, l_6, l_7, l_8, l_9, l_10, l_11, l_12, l_13, l_14, l_15, l_16, l_17, l_18, l_19, l_20, l_21, l_24, l_28, l_31, l_32, l_33, l_45, l_47, l_48, l_57, l_59, l_84, l_95, l_96, l_100, l_112, l_119, l_120, l_127, l_140, l_700, l_840, l_999, l_4095, l_999999, ↓l_m1, ↓l_m2, ↓l_m3, ↓l_m4, ↓l_m10, ↓l_m10000, nI_leI, nI_ltI, nI_eq, mI_le, mI_lt, le_mI, lt_mI, mI_eq, eq_mI, nI_add, pk_mul, pk_sub, pk_div, nI_clamp, md_eq, Nat.zero_le, true_and, and_true, and_self, if_pos, if_neg, Option.bind_some, bnd_some, Sum.elim_inl, Sum.elim_inr, ↓reduceIte]
    · simp (disch := omega) only [fX7_ends, e2, l_0, l_1, l_2, l_3, l_4, l_5, l_6, l_7, l_8, l_9, l_10, l_11, l_12, l_13, l_14, l_15, l_16, l_17, l_18, l_19, l_20, l_21, l_24, l_28, l_31, l_32, l_33, l_45, l_47, l_48, l_57, l_59, l_84, l_95, l_96, l_100, l_112, l_119, l_120, l_127, l_140, l_700, l_840, l_999, l_4095, l_999999, ↓l_m1, ↓l_m2, ↓l_m3, ↓l_m4, ↓l_m10, ↓l_m10000, nI_leI, nI_ltI, nI_eq, mI_le, mI_lt, le_mI, lt_mI, mI_eq, eq_mI, nI_add, pk_mul, pk_sub, pk_div, nI_clamp, md_eq, Nat.zero_le, true_and, and_true, and_self, if_pos, if_neg, Option.bind_some, bnd_some, Sum.elim_inl, Sum.elim_inr, ↓reduceIte]
  · rw [if_neg hge] at e2
    have hc := p1 b (by omega)
    have hxr := hx.2 b (by omega)
    by_cases h59 : tx b = 59
    · rw [h59] at hc e2
      refine Or.inl ⟨b + 1, (t.1, t.2.1, nI (b + 1), t.2.2.2), by omega, by omega, ?_, ⟨p1, p2, rfl, p4⟩, ?_⟩
      · simp (disch := omega) only [fX4_readEnd, fX4_fail, e1, p2, p4, hc, l_0, l_1, l_2, l_3, l_4, l_5, l_6, l_7, l_8, l_9, l_10, l_11, l_12, l_13, l_14, l_15, l_16, l_17, l_18, l_19, l_20, l_21, l_24, l_28, l_31, l_32, l_33, l_45, l_47, l_48, l_57, l_59, l_84, l_95, l_96, l_100, l_112, l_119, l_120, l_127, l_140, l_700, l_840, l_999, l_4095, l_999999, ↓l_m1, ↓l_m2, ↓l_m3, ↓l_m4, ↓l_m10, ↓l_m10000, nI_leI, nI_ltI, nI_eq, mI_le, mI_lt, le_mI, lt_mI, mI_eq, eq_mI, nI_add, pk_mul, pk_sub, pk_div, nI_clamp, md_eq, Nat.zero_le, true_and, and_true, and_self, if_pos, if_neg, Option.bind_some, bnd_some, Sum.elim_inl, Sum.elim_inr, ↓reduceIte]
      · simp (disch := omega) only [fX7_ends, e2, l_0, l_1, l_2, l_3, l_4, l_5, l_6, l_7, l_8, l_9, l_10, l_11, l_12, l_13, l_14, l_15, l_16, l_17, l_18, l_19, l_20, l_21, l_24, l_28, l_31, l_32, l_33, l_45, l_47, l_48, l_57, l_59, l_84, l_95, l_96, l_100, l_112, l_119, l_120, l_127, l_140, l_700, l_840, l_999, l_4095, l_999999, ↓l_m1, ↓l_m2, ↓l_m3, ↓l_m4, ↓l_m10, ↓l_m10000, nI_leI, nI_ltI, nI_eq, mI_le, mI_lt, le_mI, lt_mI, mI_eq, eq_mI, nI_add, pk_mul, pk_sub, pk_div, nI_clamp, md_eq, Nat.zero_le, true_and, and_true, and_self, if_pos, if_neg, Option.bind_some, bnd_some, Sum.elim_inl, Sum.elim_inr, ↓reduceIte]
    · refine Or.inr ⟨b, (t.1, t.2.1, nI (b + 1), nI b, t.2.2.2.2), hb, ?_, ⟨b + 1, by omega, p1, p2, rfl, rfl⟩, ?_⟩
      · simp (disch := omega) only [fX4_readEnd, fX4_fail, e1, p2, p4, hc, l_0, l_1, l_2, l_3, l_4, l_5, l_6, l_7, l_8, l_9, l_10, l_11, l_12, l_13, l_14, l_15, l_16, l_17, l_18, l_19, l_20, l_21, l_24, l_28, l_31, l_32, l_33, l_45, l_47, l_48, l_57, l_59, l_84, l_95, l_96, l_100, l_112, l_119, l_120, l_127, l_140, l_700, l_840, l_999, l_4095, l_999999, ↓l_m1, ↓l_m2, ↓l_m3, ↓l_m4, ↓l_m10, ↓l_m10000, nI_leI, nI_ltI, nI_eq, mI_le, mI_lt, le_mI, lt_mI, mI_eq, eq_mI, nI_add, pk_mul, pk_sub, pk_div, nI_clamp, md_eq, Nat.zero_le, true_and, and_true, and_self, if_pos, if_neg, Option.bind_some, bnd_some, Sum.elim_inl, Sum.elim_inr, ↓reduceIte]
      · simp (disch := omega) only [fX7_ends, e2, l_0, l_1, l_2, l_3, l_4, l_5, l_6, l_7, l_8, l_9, l_10, l_11, l_12, l_13, l_14, l_15, l_16, l_17, l_18, l_19, l_20, l_21, l_24, l_28, l_31, l_32, l_33, l_45, l_47, l_48, l_57, l_59, l_84, l_95, l_96, l_100, l_112, l_119, l_120, l_127, l_140, l_700, l_840, l_999, l_4095, l_999999, ↓l_m1, ↓l_m2, ↓l_m3, ↓l_m4, ↓l_m10, ↓l_m10000, nI_leI, nI_ltI, nI_eq, mI_le, mI_lt, le_mI, lt_mI, mI_eq, eq_mI, nI_add, pk_mul, pk_sub, pk_div, nI_clamp, md_eq, Nat.zero_le, true_and, and_true, and_self, if_pos, if_neg, Option.bind_some, bnd_some, Sum.elim_inl, Sum.elim_inr, ↓reduceIte]
