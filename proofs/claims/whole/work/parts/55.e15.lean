/-! what the model keeps of the mine ahead of a text -/
theorem asAhead_ok {τ : S7} {M : AM} (h : KR τ.2.2.2.2.2.2.2.2.2.2.2.2.2.2.2.2.2.2.2.2.2.2 0 M) (hM : OK M) : ∃ w n ce st u wl, fX7_asAhead τ = some (τ.1, w, n, ce, st, u, wl, τ.2.2.2.2.2.2.2) ∧ TR (τ.1, w, n, ce, st, u, wl, τ.2.2.2.2.2.2.2) M := by
  obtain ⟨h1, h2, h3, h4, h5, h6⟩ := h
  have hn := hM.1
  obtain ⟨z, e1, e2, e3⟩ := loopI (step := fX7_asAhead_L32 τ) (fun i (q : Int32 × (Nat → Int32) × (Nat → Int32)) => q.1 = nI i ∧ (∀ p, p < i → q.2.1 p = τ.2.2.2.2.2.2.2.2.2.2.2.2.2.2.2.2.2.2.2.2.2.2 (4 + p)) ∧ (∀ p, p < i → q.2.2 p = τ.2.2.2.2.2.2.2.2.2.2.2.2.2.2.2.2.2.2.2.2.2.2 (16 + p))) (fun q => (∀ p, p < 12 → q.2.1 p = τ.2.2.2.2.2.2.2.2.2.2.2.2.2.2.2.2.2.2.2.2.2.2 (4 + p)) ∧ (∀ p, p < 12 → q.2.2 p = τ.2.2.2.2.2.2.2.2.2.2.2.2.2.2.2.2.2.2.2.2.2.2 (16 + p))) 12 (F := 5000) (by omega) (s0 := (nI 0, τ.2.2.2.1, τ.2.2.2.2.1)) ⟨rfl, fun p hp => absurd hp (by omega), fun p hp => absurd hp (by omega)⟩
    (by
      rintro i ⟨x, f, g⟩ hi ⟨rfl, i2, i3⟩
      refine ⟨(nI (i + 1), upd f i (τ.2.2.2.2.2.2.2.2.2.2.2.2.2.2.2.2.2.2.2.2.2.2 (4 + i)), upd g i (τ.2.2.2.2.2.2.2.2.2.2.2.2.2.2.2.2.2.2.2.2.2.2 (16 + i))), ?_, rfl, fun p hp => ?_, fun p hp => ?_⟩
      · simp (disch := omega) only [fX7_asAhead_L32, l_0, l_1, l_2, l_3, l_4, l_5, l_6, l_7, l_8, l_9, l_10, l_11, l_12, l_13, l_14, l_15, l_16, l_17, l_18, l_19, l_20, l_21, l_24, l_28, l_31, l_32, l_33, l_45, l_47, l_48, l_57, l_59, l_84, l_95, l_96, l_100, l_112, l_119, l_120, l_127, l_140, l_700, l_840, l_999, l_4095, l_999999, ↓l_m1, ↓l_m2, ↓l_m3, ↓l_m4, ↓l_m10, ↓l_m10000, nI_leI, nI_ltI, nI_eq, mI_le, mI_lt, le_mI, lt_mI, mI_eq, eq_mI, nI_add, pk_mul, pk_sub, pk_div, nI_clamp, md_eq, Nat.zero_le, true_and, and_true, and_self, if_pos, if_neg, Option.bind_some, bnd_some, Sum.elim_inl, Sum.elim_inr, ↓reduceIte]
      · show upd f _ _ p = _
        by_cases hpi : p = i
        · subst hpi; exact upd_same _ _ _
        · rw [upd_ne _ _ _ _ (by omega)]; exact i2 p (by omega)
      · show upd g _ _ p = _
        by_cases hpi : p = i
        · subst hpi; exact upd_same _ _ _
        · rw [upd_ne _ _ _ _ (by omega)]; exact i3 p (by omega))
    (by
      rintro ⟨x, f, g⟩ ⟨rfl, i2, i3⟩
      refine ⟨(nI 12, f, g), ?_, i2, i3⟩
      simp (disch := omega) only [fX7_asAhead_L32, l_0, l_1, l_2, l_3, l_4, l_5, l_6, l_7, l_8, l_9, l_10, l_11, l_12, l_13, l_14, l_15, l_16, l_17, l_18, l_19, l_20, l_21, l_24, l_28, l_31, l_32, l_33, l_45, l_47, l_48, l_57, l_59, l_84, l_95, l_96, l_100, l_112, l_119, l_120, l_127, l_140, l_700, l_840, l_999, l_4095, l_999999, ↓l_m1, ↓l_m2, ↓l_m3, ↓l_m4, ↓l_m10, ↓l_m10000, nI_leI, nI_ltI, nI_eq, mI_le, mI_lt, le_mI, lt_mI, mI_eq, eq_mI, nI_add, pk_mul, pk_sub, pk_div, nI_clamp, md_eq, Nat.zero_le, true_and, and_true, and_self, if_pos, if_neg, Option.bind_some, bnd_some, Sum.elim_inl, Sum.elim_inr, ↓reduceIte])
  obtain ⟨y, e5, e6⟩ := loopI (step := fX7_asAhead_L75 τ) (fun i (q : Int32 × (Nat → Int32)) => q.1 = nI i ∧ (∀ p, p < i → q.2 p = τ.2.2.2.2.2.2.2.2.2.2.2.2.2.2.2.2.2.2.2.2.2.2 (28 + p))) (fun q => ∀ p, p < 96 → q.2 p = τ.2.2.2.2.2.2.2.2.2.2.2.2.2.2.2.2.2.2.2.2.2.2 (28 + p)) 96 (F := 5000) (by omega) (s0 := (nI 0, τ.2.1)) ⟨rfl, fun p hp => absurd hp (by omega)⟩
    (by
      rintro i ⟨x, f⟩ hi ⟨rfl, i2⟩
      refine ⟨(nI (i + 1), upd f i (τ.2.2.2.2.2.2.2.2.2.2.2.2.2.2.2.2.2.2.2.2.2.2 (28 + i))), ?_, rfl, fun p hp => ?_⟩
      · simp (disch := omega) only [fX7_asAhead_L75, l_0, l_1, l_2, l_3, l_4, l_5, l_6, l_7, l_8, l_9, l_10, l_11, l_12, l_13, l_14, l_15, l_16, l_17, l_18, l_19, l_20, l_21, l_24, l_28, l_31, l_32, l_33, l_45, l_47, l_48, l_57, l_59, l_84, l_95, l_96, l_100, l_112, l_119, l_120, l_127, l_140, l_700, l_840, l_999, l_4095, l_999999, ↓l_m1, ↓l_m2, ↓l_m3, ↓l_m4, ↓l_m10, ↓l_m10000, nI_leI, nI_ltI, nI_eq, mI_le, mI_lt, le_mI, lt_mI, mI_eq, eq_mI, nI_add, pk_mul, pk_sub, pk_div, nI_clamp, md_eq, Nat.zero_le, true_and, and_true, and_self, if_pos, if_neg, Option.bind_some, bnd_some, Sum.elim_inl, Sum.elim_inr, ↓reduceIte]
      · show upd f _ _ p = _
        by_cases hpi : p = i
        · subst hpi; exact upd_same _ _ _
        · rw [upd_ne _ _ _ _ (by omega)]; exact i2 p (by omega))
    (by
      rintro ⟨x, f⟩ ⟨rfl, i2⟩
      refine ⟨(nI 96, f), ?_, i2⟩
      simp (disch := omega) only [fX7_asAhead_L75, l_0, l_1, l_2, l_3, l_4, l_5, l_6, l_7, l_8, l_9, l_10, l_11, l_12, l_13, l_14, l_15, l_16, l_17, l_18, l_19, l_20, l_21, l_24, l_28, l_31, l_32, l_33, l_45, l_47, l_48, l_57, l_59, l_84, l_95, l_96, l_100, l_112, l_119, l_120, l_127, l_140, l_700, l_840, l_999, l_4095, l_999999, ↓l_m1, ↓l_m2, ↓l_m3, ↓l_m4, ↓l_m10, ↓l_m10000, nI_leI, nI_ltI, nI_eq, mI_le, mI_lt, le_mI, lt_mI, mI_eq, eq_mI, nI_add, pk_mul, pk_sub, pk_div, nI_clamp, md_eq, Nat.zero_le, true_and, and_true, and_self, if_pos, if_neg, Option.bind_some, bnd_some, Sum.elim_inl, Sum.elim_inr, ↓reduceIte])
  refine ⟨y.2, τ.2.2.2.2.2.2.2.2.2.2.2.2.2.2.2.2.2.2.2.2.2.2 0, z.2.1, z.2.2, τ.2.2.2.2.2.2.2.2.2.2.2.2.2.2.2.2.2.2.2.2.2.2 1, τ.2.2.2.2.2.2.2.2.2.2.2.2.2.2.2.2.2.2.2.2.2.2 2, ?_, h1, fun p hp => ?_, fun p hp => ?_, h2, h3, fun c hc => ?_⟩
  · simp (disch := omega) only [fX7_asAhead, l_0, l_1, l_2, nI_leI, nI_clamp, Nat.zero_le, true_and, if_pos, e1, e5, bnd_some]
  · show z.2.1 p = _
    rw [e2 p (by omega), ← h4 p hp, show 0 + 4 + p = 4 + p by omega]
  · show z.2.2 p = _
    rw [e3 p (by omega), ← h5 p hp, show 0 + 16 + p = 16 + p by omega]
  · show y.2 c = _
    rw [e6 c hc, ← h6 c hc, show 0 + 28 + c = 28 + c by omega]
theorem leavesAhead_ok {τ : S7} {M M1 : AM} {c : Nat} {H : Nat → AM} (h : TR τ M1) (hM1 : OK M1) (hM : OK M) (hH : HM τ c H) (hHO : ∀ i, i < c → OK (H i)) (hk : KR τ.2.2.2.2.2.2.2.2.2.2.2.2.2.2.2.2.2.2.2.2.2.2 0 M) : ∃ f, fX7_leavesAhead τ = some (τ.1, τ.2.1, τ.2.2.1, τ.2.2.2.1, τ.2.2.2.2.1, τ.2.2.2.2.2.1, τ.2.2.2.2.2.2.1, nI (nC c), f, τ.2.2.2.2.2.2.2.2.2) ∧ HM (τ.1, τ.2.1, τ.2.2.1, τ.2.2.2.1, τ.2.2.2.2.1, τ.2.2.2.2.2.1, τ.2.2.2.2.2.2.1, nI (nC c), f, τ.2.2.2.2.2.2.2.2.2) (nC c) (nH c H M) := by
  obtain ⟨f, e1, e2⟩ := leavesState_ok h hM1 hH hHO
  have hc := hH.1
  have hnc : 1 ≤ nC c ∧ nC c ≤ 6 := by unfold nC; split <;> omega
  obtain ⟨τ1, ht1⟩ : ∃ τ1, τ1 = (τ.1, τ.2.1, τ.2.2.1, τ.2.2.2.1, τ.2.2.2.2.1, τ.2.2.2.2.2.1, τ.2.2.2.2.2.2.1, nI (nC c), f, τ.2.2.2.2.2.2.2.2.2) := ⟨_, rfl⟩
  have hst : τ1.2.2.2.2.2.2.2.1 = nI (nC c) := by rw [ht1]
  have hah : τ1.2.2.2.2.2.2.2.2.2.2.2.2.2.2.2.2.2.2.2.2.2.2 = τ.2.2.2.2.2.2.2.2.2.2.2.2.2.2.2.2.2.2.2.2.2.2 := by rw [ht1]
  obtain ⟨z, e3, e4, e5⟩ := loopI (step := fX7_leavesAhead_L6 τ1) (fun i (q : Int32 × (Nat → Int32)) => q.1 = nI i ∧ (∀ j, j < 140 * (nC c - 1) → q.2 j = f j) ∧ (∀ j, j < i → q.2 (140 * (nC c - 1) + j) = τ.2.2.2.2.2.2.2.2.2.2.2.2.2.2.2.2.2.2.2.2.2.2 j)) (fun q => (∀ j, j < 140 * (nC c - 1) → q.2 j = f j) ∧ (∀ j, j < 140 → q.2 (140 * (nC c - 1) + j) = τ.2.2.2.2.2.2.2.2.2.2.2.2.2.2.2.2.2.2.2.2.2.2 j)) 140 (F := 5000) (by omega) (s0 := (nI 0, f)) ⟨rfl, fun _ _ => rfl, fun p hp => absurd hp (by omega)⟩
    (by
      rintro i ⟨x, g⟩ hi ⟨rfl, i1, i2⟩
      refine ⟨(nI (i + 1), upd g (140 * (nC c - 1) + i) (τ.2.2.2.2.2.2.2.2.2.2.2.2.2.2.2.2.2.2.2.2.2.2 i)), ?_, rfl, fun j hj => ?_, fun j hj => ?_⟩
      · simp (disch := omega) only [fX7_leavesAhead_L6, hst, hah, l_0, l_1, l_2, l_3, l_4, l_5, l_6, l_7, l_8, l_9, l_10, l_11, l_12, l_13, l_14, l_15, l_16, l_17, l_18, l_19, l_20, l_21, l_24, l_28, l_31, l_32, l_33, l_45, l_47, l_48, l_57, l_59, l_84, l_95, l_96, l_100, l_112, l_119, l_120, l_127, l_140, l_700, l_840, l_999, l_4095, l_999999, ↓l_m1, ↓l_m2, ↓l_m3, ↓l_m4, ↓l_m10, ↓l_m10000, nI_leI, nI_ltI, nI_eq, mI_le, mI_lt, le_mI, lt_mI, mI_eq, eq_mI, nI_add, pk_mul, pk_sub, pk_div, nI_clamp, md_eq, Nat.zero_le, true_and, and_true, and_self, if_pos, if_neg, Option.bind_some, bnd_some, Sum.elim_inl, Sum.elim_inr, ↓reduceIte]
      · show upd g _ _ j = _
        rw [upd_ne _ _ _ _ (by omega)]; exact i1 j hj
      · show upd g _ _ _ = _
        by_cases hji : j = i
        · subst hji; exact upd_same _ _ _
        · rw [upd_ne _ _ _ _ (by omega)]; exact i2 j (by omega))
    (by
      rintro ⟨x, g⟩ ⟨rfl, i1, i2⟩
      refine ⟨(nI 140, g), ?_, i1, i2⟩
      simp (disch := omega) only [fX7_leavesAhead_L6, l_0, l_1, l_2, l_3, l_4, l_5, l_6, l_7, l_8, l_9, l_10, l_11, l_12, l_13, l_14, l_15, l_16, l_17, l_18, l_19, l_20, l_21, l_24, l_28, l_31, l_32, l_33, l_45, l_47, l_48, l_57, l_59, l_84, l_95, l_96, l_100, l_112, l_119, l_120, l_127, l_140, l_700, l_840, l_999, l_4095, l_999999, ↓l_m1, ↓l_m2, ↓l_m3, ↓l_m4, ↓l_m10, ↓l_m10000, nI_leI, nI_ltI, nI_eq, mI_le, mI_lt, le_mI, lt_mI, mI_eq, eq_mI, nI_add, pk_mul, pk_sub, pk_div, nI_clamp, md_eq, Nat.zero_le, true_and, and_true, and_self, if_pos, if_neg, Option.bind_some, bnd_some, Sum.elim_inl, Sum.elim_inr, ↓reduceIte])
  refine ⟨z.2, ?_, hnc.2, rfl, fun i hi => ?_⟩
  · rw [← ht1] at e1
    have hkp : τ1.2.2.2.2.2.2.2.2.1 = f := by rw [ht1]
    have : fX7_leavesAhead τ = some (τ1.1, τ1.2.1, τ1.2.2.1, τ1.2.2.2.1, τ1.2.2.2.2.1, τ1.2.2.2.2.2.1, τ1.2.2.2.2.2.2.1, τ1.2.2.2.2.2.2.2.1, z.2, τ1.2.2.2.2.2.2.2.2.2) := by
      simp only [fX7_leavesAhead, e1, bnd_some, hkp, l_0, e3]
    rw [this, ht1]
  · show KR z.2 (140 * i) _
    by_cases hlast : i = nC c - 1
    · have hnh : nH c H M i = M := by
        unfold nH
        unfold nC at hlast
        by_cases h6 : c < 6
        · rw [if_pos h6] at hlast ⊢; rw [if_pos (by omega)]
        · rw [if_neg h6] at hlast ⊢; rw [if_pos (by omega)]
      rw [hnh, hlast]
      exact KR_cong (a := 0) hM.1 hk (fun j hj => by rw [e5 j hj, Nat.zero_add])
    · have hnh : nH c H M i = nH c H M1 i := by
        unfold nH
        unfold nC at hlast hi
        by_cases h6 : c < 6
        · rw [if_pos h6] at hlast hi ⊢; rw [if_pos h6, if_neg (by omega), if_neg (by omega)]
        · rw [if_neg h6] at hlast hi ⊢; rw [if_neg h6, if_neg (by omega), if_neg (by omega)]
      have hn12 : (nH c H M1 i).n ≤ 12 := by
        unfold nH
        by_cases h6 : c < 6
        · rw [if_pos h6]
          unfold nC at hlast hi
          rw [if_pos h6] at hlast hi
          rw [if_neg (by omega)]
          exact (hHO i (by omega)).1
        · rw [if_neg h6]
          unfold nC at hlast hi
          rw [if_neg h6] at hlast hi
          rw [if_neg (by omega)]
          exact (hHO (i + 1) (by omega)).1
      rw [hnh]
      exact KR_cong hn12 (e2.2.2 i hi) (fun j hj => e4 _ (by omega))
