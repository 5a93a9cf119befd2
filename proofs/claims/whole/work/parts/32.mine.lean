theorem countStanding_ok {m : S1} {M : AM} (h : MR m M) : fX1_countStanding m = some (nI (cntB M.up M.n)) := by
  obtain ⟨hO, h1, h2, h3, h4, h5, h6⟩ := h
  have hn := hO.1
  unfold fX1_countStanding
  obtain ⟨r, e1, e2⟩ := loopI (step := fX1_countStanding_L4 m) (fun i (q : Int32 × Int32) => q = (nI (cntB M.up i), nI i)) (fun q => q.1 = nI (cntB M.up M.n)) M.n (F := 5000) (by omega) (s0 := ((0 : Int32), (0 : Int32))) rfl
    (by
      rintro i q hi rfl
      have hb := cntB_le M.up i
      refine ⟨_, ?_, rfl⟩
      simp (disch := omega) only [fX1_countStanding_L4, h1, h4, l_0, l_1, l_2, l_3, l_4, l_5, l_6, l_7, l_8, l_9, l_10, l_11, l_12, l_13, l_14, l_15, l_16, l_17, l_18, l_19, l_20, l_21, l_24, l_28, l_31, l_32, l_33, l_45, l_47, l_48, l_57, l_59, l_84, l_95, l_96, l_100, l_112, l_119, l_120, l_127, l_140, l_700, l_840, l_999, l_4095, l_999999, ↓l_m1, ↓l_m2, ↓l_m3, ↓l_m4, ↓l_m10, ↓l_m10000, nI_leI, nI_ltI, nI_eq, mI_le, mI_lt, le_mI, lt_mI, mI_eq, eq_mI, nI_add, pk_mul, pk_sub, pk_div, nI_clamp, md_eq, Nat.zero_le, true_and, and_true, and_self, if_pos, if_neg, Option.bind_some, bnd_some, Sum.elim_inl, Sum.elim_inr, ↓reduceIte]
      cases hu : M.up i <;> simp only [cntB, hu, bI_t, bI_f, nI_add, if_true, Bool.false_eq_true, if_false])
    (by
      rintro q rfl
      have hb := cntB_le M.up M.n
      refine ⟨(nI (cntB M.up M.n), nI M.n), ?_, rfl⟩
      simp (disch := omega) only [fX1_countStanding_L4, h1, l_0, l_1, l_2, l_3, l_4, l_5, l_6, l_7, l_8, l_9, l_10, l_11, l_12, l_13, l_14, l_15, l_16, l_17, l_18, l_19, l_20, l_21, l_24, l_28, l_31, l_32, l_33, l_45, l_47, l_48, l_57, l_59, l_84, l_95, l_96, l_100, l_112, l_119, l_120, l_127, l_140, l_700, l_840, l_999, l_4095, l_999999, ↓l_m1, ↓l_m2, ↓l_m3, ↓l_m4, ↓l_m10, ↓l_m10000, nI_leI, nI_ltI, nI_eq, mI_le, mI_lt, le_mI, lt_mI, mI_eq, eq_mI, nI_add, pk_mul, pk_sub, pk_div, nI_clamp, md_eq, Nat.zero_le, true_and, and_true, and_self, if_pos, if_neg, Option.bind_some, bnd_some, Sum.elim_inl, Sum.elim_inr, ↓reduceIte])
  rw [e1, bnd_some, e2]
theorem hasPillar_neg (m : S1) {p : Int32} (hp : p < 0) : fX1_hasPillar m p = some (nI 0) := by
  unfold fX1_hasPillar
  rw [if_pos hp]; rfl
theorem hasPillar_ok {m : S1} {M : AM} (h : MR m M) {p : Nat} (hp : p < 2 ^ 31) : fX1_hasPillar m (nI p) = some (if p < M.n then nI 1 else nI 0) := by
  obtain ⟨hO, h1, -⟩ := h
  have hn := hO.1
  by_cases hc : M.n ≤ p
  · simp (disch := omega) only [fX1_hasPillar, h1, l_0, l_1, l_2, l_3, l_4, l_5, l_6, l_7, l_8, l_9, l_10, l_11, l_12, l_13, l_14, l_15, l_16, l_17, l_18, l_19, l_20, l_21, l_24, l_28, l_31, l_32, l_33, l_45, l_47, l_48, l_57, l_59, l_84, l_95, l_96, l_100, l_112, l_119, l_120, l_127, l_140, l_700, l_840, l_999, l_4095, l_999999, ↓l_m1, ↓l_m2, ↓l_m3, ↓l_m4, ↓l_m10, ↓l_m10000, nI_leI, nI_ltI, nI_eq, mI_le, mI_lt, le_mI, lt_mI, mI_eq, eq_mI, nI_add, pk_mul, pk_sub, pk_div, nI_clamp, md_eq, Nat.zero_le, true_and, and_true, and_self, if_pos, if_neg, Option.bind_some, bnd_some, Sum.elim_inl, Sum.elim_inr, ↓reduceIte]
  · simp (disch := omega) only [fX1_hasPillar, h1, l_0, l_1, l_2, l_3, l_4, l_5, l_6, l_7, l_8, l_9, l_10, l_11, l_12, l_13, l_14, l_15, l_16, l_17, l_18, l_19, l_20, l_21, l_24, l_28, l_31, l_32, l_33, l_45, l_47, l_48, l_57, l_59, l_84, l_95, l_96, l_100, l_112, l_119, l_120, l_127, l_140, l_700, l_840, l_999, l_4095, l_999999, ↓l_m1, ↓l_m2, ↓l_m3, ↓l_m4, ↓l_m10, ↓l_m10000, nI_leI, nI_ltI, nI_eq, mI_le, mI_lt, le_mI, lt_mI, mI_eq, eq_mI, nI_add, pk_mul, pk_sub, pk_div, nI_clamp, md_eq, Nat.zero_le, true_and, and_true, and_self, if_pos, if_neg, Option.bind_some, bnd_some, Sum.elim_inl, Sum.elim_inr, ↓reduceIte]
theorem isStanding_neg (m : S1) {p : Int32} (hp : p < 0) : fX1_isStanding m p = some (nI 0) := by
  unfold fX1_isStanding
  rw [hasPillar_neg m hp]
  simp (disch := omega) only [l_0, l_1, l_2, l_3, l_4, l_5, l_6, l_7, l_8, l_9, l_10, l_11, l_12, l_13, l_14, l_15, l_16, l_17, l_18, l_19, l_20, l_21, l_24, l_28, l_31, l_32, l_33, l_45, l_47, l_48, l_57, l_59, l_84, l_95, l_96, l_100, l_112, l_119, l_120, l_127, l_140, l_700, l_840, l_999, l_4095, l_999999, ↓l_m1, ↓l_m2, ↓l_m3, ↓l_m4, ↓l_m10, ↓l_m10000, nI_leI, nI_ltI, nI_eq, mI_le, mI_lt, le_mI, lt_mI, mI_eq, eq_mI, nI_add, pk_mul, pk_sub, pk_div, nI_clamp, md_eq, Nat.zero_le, true_and, and_true, and_self, if_pos, if_neg, Option.bind_some, bnd_some, Sum.elim_inl, Sum.elim_inr, ↓reduceIte]
theorem isStanding_ok {m : S1} {M : AM} (h : MR m M) {p : Nat} (hp : p < 2 ^ 31) : fX1_isStanding m (nI p) = some (bI (M.up p)) := by
  have hP := hasPillar_ok h hp
  obtain ⟨hO, h1, h2, h3, h4, h5, h6⟩ := h
  have hn := hO.1
  by_cases hc : p < M.n
  · cases hu : M.up p
    · simp (disch := omega) only [fX1_isStanding, hP, h4, hu, bI_f, l_0, l_1, l_2, l_3, l_4, l_5, l_6, l_7, l_8, l_9, l_10, l_11, l_12, l_13, l_14, l_15, l_16, l_17, l_18, l_19, l_20, l_21, l_24, l_28, l_31, l_32, l_33, l_45, l_47, l_48, l_57, l_59, l_84, l_95, l_96, l_100, l_112, l_119, l_120, l_127, l_140, l_700, l_840, l_999, l_4095, l_999999, ↓l_m1, ↓l_m2, ↓l_m3, ↓l_m4, ↓l_m10, ↓l_m10000, nI_leI, nI_ltI, nI_eq, mI_le, mI_lt, le_mI, lt_mI, mI_eq, eq_mI, nI_add, pk_mul, pk_sub, pk_div, nI_clamp, md_eq, Nat.zero_le, true_and, and_true, and_self, if_pos, if_neg, Option.bind_some, bnd_some, Sum.elim_inl, Sum.elim_inr, ↓reduceIte]
    · simp (disch := omega) only [fX1_isStanding, hP, h4, hu, bI_t, l_0, l_1, l_2, l_3, l_4, l_5, l_6, l_7, l_8, l_9, l_10, l_11, l_12, l_13, l_14, l_15, l_16, l_17, l_18, l_19, l_20, l_21, l_24, l_28, l_31, l_32, l_33, l_45, l_47, l_48, l_57, l_59, l_84, l_95, l_96, l_100, l_112, l_119, l_120, l_127, l_140, l_700, l_840, l_999, l_4095, l_999999, ↓l_m1, ↓l_m2, ↓l_m3, ↓l_m4, ↓l_m10, ↓l_m10000, nI_leI, nI_ltI, nI_eq, mI_le, mI_lt, le_mI, lt_mI, mI_eq, eq_mI, nI_add, pk_mul, pk_sub, pk_div, nI_clamp, md_eq, Nat.zero_le, true_and, and_true, and_self, if_pos, if_neg, Option.bind_some, bnd_some, Sum.elim_inl, Sum.elim_inr, ↓reduceIte]
  · have hu := hO.2.2.2.1 p (by omega)
    simp (disch := omega) only [fX1_isStanding, hP, hu, bI_f, l_0, l_1, l_2, l_3, l_4, l_5, l_6, l_7, l_8, l_9, l_10, l_11, l_12, l_13, l_14, l_15, l_16, l_17, l_18, l_19, l_20, l_21, l_24, l_28, l_31, l_32, l_33, l_45, l_47, l_48, l_57, l_59, l_84, l_95, l_96, l_100, l_112, l_119, l_120, l_127, l_140, l_700, l_840, l_999, l_4095, l_999999, ↓l_m1, ↓l_m2, ↓l_m3, ↓l_m4, ↓l_m10, ↓l_m10000, nI_leI, nI_ltI, nI_eq, mI_le, mI_lt, le_mI, lt_mI, mI_eq, eq_mI, nI_add, pk_mul, pk_sub, pk_div, nI_clamp, md_eq, Nat.zero_le, true_and, and_true, and_self, if_pos, if_neg, Option.bind_some, bnd_some, Sum.elim_inl, Sum.elim_inr, ↓reduceIte]
theorem hasPillarOn_ok {m : S1} {M : AM} (h : MR m M) (c : Nat) (hc : c < 2 ^ 31) : ∃ b : Bool, fX1_hasPillarOn m (nI c) = some (bI b) ∧ (b = true ↔ ∃ p, p < M.n ∧ M.cl p = c) := by
  obtain ⟨hO, h1, h2, h3, h4, h5, h6⟩ := h
  have hn := hO.1
  unfold fX1_hasPillarOn
  obtain ⟨r, e1, e2⟩ := loopX (step := fX1_hasPillarOn_L2 m (nI c)) (fun i (q : Int32) => q = nI i ∧ ∀ p, p < i → M.cl p ≠ c) (fun q => (∃ x, q = .inl x ∧ ∀ p, p < M.n → M.cl p ≠ c) ∨ (q = .inr (nI 1) ∧ ∃ p, p < M.n ∧ M.cl p = c)) M.n (F := 5000) (by omega) (s0 := (0 : Int32)) ⟨rfl, fun p hp => absurd hp (by omega)⟩
    (by
      rintro i q hi ⟨rfl, hq⟩
      have hcl := hO.2.1 i hi
      by_cases hz : M.cl i = c
      · refine Or.inr ⟨.inr (nI 1), ?_, Or.inr ⟨rfl, i, hi, hz⟩⟩
        simp (disch := omega) only [fX1_hasPillarOn_L2, h1, h2, l_0, l_1, l_2, l_3, l_4, l_5, l_6, l_7, l_8, l_9, l_10, l_11, l_12, l_13, l_14, l_15, l_16, l_17, l_18, l_19, l_20, l_21, l_24, l_28, l_31, l_32, l_33, l_45, l_47, l_48, l_57, l_59, l_84, l_95, l_96, l_100, l_112, l_119, l_120, l_127, l_140, l_700, l_840, l_999, l_4095, l_999999, ↓l_m1, ↓l_m2, ↓l_m3, ↓l_m4, ↓l_m10, ↓l_m10000, nI_leI, nI_ltI, nI_eq, mI_le, mI_lt, le_mI, lt_mI, mI_eq, eq_mI, nI_add, pk_mul, pk_sub, pk_div, nI_clamp, md_eq, Nat.zero_le, true_and, and_true, and_self, if_pos, if_neg, Option.bind_some, bnd_some, Sum.elim_inl, Sum.elim_inr, ↓reduceIte]
      · refine Or.inl ⟨nI (i + 1), ?_, rfl, fun p hp => ?_⟩
        · simp (disch := omega) only [fX1_hasPillarOn_L2, h1, h2, l_0, l_1, l_2, l_3, l_4, l_5, l_6, l_7, l_8, l_9, l_10, l_11, l_12, l_13, l_14, l_15, l_16, l_17, l_18, l_19, l_20, l_21, l_24, l_28, l_31, l_32, l_33, l_45, l_47, l_48, l_57, l_59, l_84, l_95, l_96, l_100, l_112, l_119, l_120, l_127, l_140, l_700, l_840, l_999, l_4095, l_999999, ↓l_m1, ↓l_m2, ↓l_m3, ↓l_m4, ↓l_m10, ↓l_m10000, nI_leI, nI_ltI, nI_eq, mI_le, mI_lt, le_mI, lt_mI, mI_eq, eq_mI, nI_add, pk_mul, pk_sub, pk_div, nI_clamp, md_eq, Nat.zero_le, true_and, and_true, and_self, if_pos, if_neg, Option.bind_some, bnd_some, Sum.elim_inl, Sum.elim_inr, ↓reduceIte]
        · by_cases hpi : p = i
          · subst hpi; exact hz
          · exact hq p (by omega))
    (by
      rintro q ⟨rfl, hq⟩
      refine ⟨.inl (nI M.n), ?_, Or.inl ⟨_, rfl, hq⟩⟩
      simp (disch := omega) only [fX1_hasPillarOn_L2, h1, l_0, l_1, l_2, l_3, l_4, l_5, l_6, l_7, l_8, l_9, l_10, l_11, l_12, l_13, l_14, l_15, l_16, l_17, l_18, l_19, l_20, l_21, l_24, l_28, l_31, l_32, l_33, l_45, l_47, l_48, l_57, l_59, l_84, l_95, l_96, l_100, l_112, l_119, l_120, l_127, l_140, l_700, l_840, l_999, l_4095, l_999999, ↓l_m1, ↓l_m2, ↓l_m3, ↓l_m4, ↓l_m10, ↓l_m10000, nI_leI, nI_ltI, nI_eq, mI_le, mI_lt, le_mI, lt_mI, mI_eq, eq_mI, nI_add, pk_mul, pk_sub, pk_div, nI_clamp, md_eq, Nat.zero_le, true_and, and_true, and_self, if_pos, if_neg, Option.bind_some, bnd_some, Sum.elim_inl, Sum.elim_inr, ↓reduceIte])
  rcases e2 with ⟨x, rfl, hq⟩ | ⟨rfl, hq⟩
  · refine ⟨false, by rw [e1]; rfl, ⟨(fun q => by cases q), fun ⟨p, h7, h8⟩ => absurd h8 (hq p h7)⟩⟩
  · exact ⟨true, by rw [e1]; rfl, ⟨fun _ => hq, fun _ => rfl⟩⟩
/-- the last line of the room -/
theorem lastOf_ok {m : S1} {M : AM} (h : MR m M) {b k t : Nat} (hb : b ≤ 10) (hk : k ≤ t) (ht : b + t ≤ 21) : ∃ r, fX1_lastOf m (nI b) (nI k) (nI t) = some (nI r) ∧ k ≤ r ∧ r ≤ t ∧ (∀ j, k ≤ j → j < r → M.wl (b + j) = false) ∧ (r = t ∨ M.wl (b + r) = true) := by
  obtain ⟨hO, h1, h2, h3, h4, h5, h6⟩ := h
  unfold fX1_lastOf
  obtain ⟨r, e1, e2⟩ := loopX (step := fX1_lastOf_L3 m (nI b) (nI t)) (fun i (q : Int32) => q = nI (k + i) ∧ ∀ j, k ≤ j → j < k + i → M.wl (b + j) = false) (fun q => ∃ r, q = nI r ∧ k ≤ r ∧ r ≤ t ∧ (∀ j, k ≤ j → j < r → M.wl (b + j) = false) ∧ (r = t ∨ M.wl (b + r) = true)) (t - k) (F := 5000) (by omega) (s0 := nI k) ⟨rfl, fun j h1 h2 => absurd h2 (by omega)⟩
    (by
      rintro i q hi ⟨rfl, hq⟩
      cases hw : M.wl (b + (k + i))
      · refine Or.inl ⟨nI (k + (i + 1)), ?_, rfl, fun j h1 h2 => ?_⟩
        · simp (disch := omega) only [fX1_lastOf_L3, h5, hw, bI_f, l_0, l_1, l_2, l_3, l_4, l_5, l_6, l_7, l_8, l_9, l_10, l_11, l_12, l_13, l_14, l_15, l_16, l_17, l_18, l_19, l_20, l_21, l_24, l_28, l_31, l_32, l_33, l_45, l_47, l_48, l_57, l_59, l_84, l_95, l_96, l_100, l_112, l_119, l_120, l_127, l_140, l_700, l_840, l_999, l_4095, l_999999, ↓l_m1, ↓l_m2, ↓l_m3, ↓l_m4, ↓l_m10, ↓l_m10000, nI_leI, nI_ltI, nI_eq, mI_le, mI_lt, le_mI, lt_mI, mI_eq, eq_mI, nI_add, pk_mul, pk_sub, pk_div, nI_clamp, md_eq, Nat.zero_le, true_and, and_true, and_self, if_pos, if_neg, Option.bind_some, bnd_some, Sum.elim_inl, Sum.elim_inr, ↓reduceIte]
          rfl
        · by_cases hj : j = k + i
          · subst hj; exact hw
          · exact hq j h1 (by omega)
      · refine Or.inr ⟨nI (k + i), ?_, k + i, rfl, by omega, by omega, hq, Or.inr hw⟩
        simp (disch := omega) only [fX1_lastOf_L3, h5, hw, bI_t, l_0, l_1, l_2, l_3, l_4, l_5, l_6, l_7, l_8, l_9, l_10, l_11, l_12, l_13, l_14, l_15, l_16, l_17, l_18, l_19, l_20, l_21, l_24, l_28, l_31, l_32, l_33, l_45, l_47, l_48, l_57, l_59, l_84, l_95, l_96, l_100, l_112, l_119, l_120, l_127, l_140, l_700, l_840, l_999, l_4095, l_999999, ↓l_m1, ↓l_m2, ↓l_m3, ↓l_m4, ↓l_m10, ↓l_m10000, nI_leI, nI_ltI, nI_eq, mI_le, mI_lt, le_mI, lt_mI, mI_eq, eq_mI, nI_add, pk_mul, pk_sub, pk_div, nI_clamp, md_eq, Nat.zero_le, true_and, and_true, and_self, if_pos, if_neg, Option.bind_some, bnd_some, Sum.elim_inl, Sum.elim_inr, ↓reduceIte])
    (by
      rintro q ⟨rfl, hq⟩
      refine ⟨nI (k + (t - k)), ?_, t, by rw [show k + (t - k) = t by omega], by omega, by omega, fun j h1 h2 => hq j h1 (by omega), Or.inl rfl⟩
      simp (disch := omega) only [fX1_lastOf_L3, l_0, l_1, l_2, l_3, l_4, l_5, l_6, l_7, l_8, l_9, l_10, l_11, l_12, l_13, l_14, l_15, l_16, l_17, l_18, l_19, l_20, l_21, l_24, l_28, l_31, l_32, l_33, l_45, l_47, l_48, l_57, l_59, l_84, l_95, l_96, l_100, l_112, l_119, l_120, l_127, l_140, l_700, l_840, l_999, l_4095, l_999999, ↓l_m1, ↓l_m2, ↓l_m3, ↓l_m4, ↓l_m10, ↓l_m10000, nI_leI, nI_ltI, nI_eq, mI_le, mI_lt, le_mI, lt_mI, mI_eq, eq_mI, nI_add, pk_mul, pk_sub, pk_div, nI_clamp, md_eq, Nat.zero_le, true_and, and_true, and_self, if_pos, if_neg, Option.bind_some, bnd_some, Sum.elim_inl, Sum.elim_inr, ↓reduceIte])
  obtain ⟨x, rfl, e3⟩ := e2
  exact ⟨x, by rw [e1]; rfl, e3⟩
/-- the first line of the room -/
theorem firstOf_ok {m : S1} {M : AM} (h : MR m M) {b k : Nat} (hb : b ≤ 10) (hk : b + k ≤ 21) : ∃ r, fX1_firstOf m (nI b) (nI k) = some (nI r) ∧ r ≤ k ∧ (∀ j, r ≤ j → j < k → M.wl (b + j) = false) ∧ (r = 0 ∨ M.wl (b + (r - 1)) = true) := by
  obtain ⟨hO, h1, h2, h3, h4, h5, h6⟩ := h
  unfold fX1_firstOf
  obtain ⟨r, e1, e2⟩ := loopX (step := fX1_firstOf_L2 m (nI b)) (fun i (q : Int32) => q = nI (k - i) ∧ ∀ j, k - i ≤ j → j < k → M.wl (b + j) = false) (fun q => ∃ r, q = nI r ∧ r ≤ k ∧ (∀ j, r ≤ j → j < k → M.wl (b + j) = false) ∧ (r = 0 ∨ M.wl (b + (r - 1)) = true)) k (F := 5000) (by omega) (s0 := nI k) ⟨rfl, fun j h1 h2 => absurd h2 (by omega)⟩
    (by
      rintro i q hi ⟨rfl, hq⟩
      have hm1 : nI (k - i) + mI = nI (k - (i + 1)) := by
        have := pk_m1 (k - (i + 1))
        rw [show k - (i + 1) + 1 = k - i by omega] at this
        exact this
      have e1 : b + (k - i) - 1 = b + (k - (i + 1)) := by omega
      cases hw : M.wl (b + (k - (i + 1)))
      · refine Or.inl ⟨nI (k - (i + 1)), ?_, rfl, fun j h1 h2 => ?_⟩
        · simp (disch := omega) only [fX1_firstOf_L2, h5, e1, hw, bI_f, hm1, l_0, l_1, l_2, l_3, l_4, l_5, l_6, l_7, l_8, l_9, l_10, l_11, l_12, l_13, l_14, l_15, l_16, l_17, l_18, l_19, l_20, l_21, l_24, l_28, l_31, l_32, l_33, l_45, l_47, l_48, l_57, l_59, l_84, l_95, l_96, l_100, l_112, l_119, l_120, l_127, l_140, l_700, l_840, l_999, l_4095, l_999999, ↓l_m1, ↓l_m2, ↓l_m3, ↓l_m4, ↓l_m10, ↓l_m10000, nI_leI, nI_ltI, nI_eq, mI_le, mI_lt, le_mI, lt_mI, mI_eq, eq_mI, nI_add, pk_mul, pk_sub, pk_div, nI_clamp, md_eq, Nat.zero_le, true_and, and_true, and_self, if_pos, if_neg, Option.bind_some, bnd_some, Sum.elim_inl, Sum.elim_inr, ↓reduceIte]
        · by_cases hj : j = k - (i + 1)
          · subst hj; exact hw
          · exact hq j (by omega) h2
      · refine Or.inr ⟨nI (k - i), ?_, k - i, rfl, by omega, hq, Or.inr (by rw [show k - i - 1 = k - (i + 1) by omega]; exact hw)⟩
        simp (disch := omega) only [fX1_firstOf_L2, h5, e1, hw, bI_t, l_0, l_1, l_2, l_3, l_4, l_5, l_6, l_7, l_8, l_9, l_10, l_11, l_12, l_13, l_14, l_15, l_16, l_17, l_18, l_19, l_20, l_21, l_24, l_28, l_31, l_32, l_33, l_45, l_47, l_48, l_57, l_59, l_84, l_95, l_96, l_100, l_112, l_119, l_120, l_127, l_140, l_700, l_840, l_999, l_4095, l_999999, ↓l_m1, ↓l_m2, ↓l_m3, ↓l_m4, ↓l_m10, ↓l_m10000, nI_leI, nI_ltI, nI_eq, mI_le, mI_lt, le_mI, lt_mI, mI_eq, eq_mI, nI_add, pk_mul, pk_sub, pk_div, nI_clamp, md_eq, Nat.zero_le, true_and, and_true, and_self, if_pos, if_neg, Option.bind_some, bnd_some, Sum.elim_inl, Sum.elim_inr, ↓reduceIte])
    (by
      rintro q ⟨rfl, hq⟩
      refine ⟨nI (k - k), ?_, 0, by rw [show k - k = 0 by omega], by omega, fun j h1 h2 => hq j (by omega) h2, Or.inl rfl⟩
      simp (disch := omega) only [fX1_firstOf_L2, l_0, l_1, l_2, l_3, l_4, l_5, l_6, l_7, l_8, l_9, l_10, l_11, l_12, l_13, l_14, l_15, l_16, l_17, l_18, l_19, l_20, l_21, l_24, l_28, l_31, l_32, l_33, l_45, l_47, l_48, l_57, l_59, l_84, l_95, l_96, l_100, l_112, l_119, l_120, l_127, l_140, l_700, l_840, l_999, l_4095, l_999999, ↓l_m1, ↓l_m2, ↓l_m3, ↓l_m4, ↓l_m10, ↓l_m10000, nI_leI, nI_ltI, nI_eq, mI_le, mI_lt, le_mI, lt_mI, mI_eq, eq_mI, nI_add, pk_mul, pk_sub, pk_div, nI_clamp, md_eq, Nat.zero_le, true_and, and_true, and_self, if_pos, if_neg, Option.bind_some, bnd_some, Sum.elim_inl, Sum.elim_inr, ↓reduceIte])
  obtain ⟨x, rfl, e3⟩ := e2
  exact ⟨x, by rw [e1]; rfl, e3⟩
/-- a room's lines are those with as many walls ahead -/
theorem room_iff {wl : Nat → Bool} {b k f t T : Nat} (hfk : f ≤ k) (hkt : k ≤ t) (htT : t ≤ T) (h1 : ∀ j, f ≤ j → j < k → wl (b + j) = false) (h2 : f = 0 ∨ wl (b + (f - 1)) = true) (h3 : ∀ j, k ≤ j → j < t → wl (b + j) = false) (h4 : t = T ∨ wl (b + t) = true) {x : Nat} (hx : x ≤ T) : (f ≤ x ∧ x ≤ t) ↔ cntW wl b k = cntW wl b x := by
  constructor
  · rintro ⟨a1, a2⟩
    by_cases hxk : x ≤ k
    · have := (cntW_same wl b x (k - x)).mpr (fun j q1 q2 => h1 j (by omega) (by omega))
      rw [show x + (k - x) = k by omega] at this
      exact this.symm
    · have := (cntW_same wl b k (x - k)).mpr (fun j q1 q2 => h3 j (by omega) (by omega))
      rw [show k + (x - k) = x by omega] at this
      exact this
  · intro e
    by_cases hxk : x ≤ k
    · have := (cntW_same wl b x (k - x)).mp (by rw [show x + (k - x) = k by omega]; exact e.symm)
      refine ⟨?_, by omega⟩
      rcases h2 with h2 | h2
      · omega
      · rcases Nat.lt_or_ge x f with q | q
        · have := this (f - 1) (by omega) (by omega)
          rw [h2] at this; cases this
        · exact q
    · have := (cntW_same wl b k (x - k)).mp (by rw [show k + (x - k) = x by omega]; exact e)
      refine ⟨by omega, ?_⟩
      rcases h4 with h4 | h4
      · omega
      · rcases Nat.lt_or_ge t x with q | q
        · have := this t (by omega) (by omega)
          rw [h4] at this; cases this
        · exact q
