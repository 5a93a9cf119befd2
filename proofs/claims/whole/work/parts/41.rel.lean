/-- the model's waves -/
def WR (τ : S7) (w : Nat) (V : Nat → Nat → Bool) : Prop := τ.2.2.2.2.2.2.2.2.2.2.2.2.2.1 = nI w ∧ w ≤ 12 ∧ (∀ k, k < w → hS (τ.2.2.2.2.2.2.2.2.2.2.2.2.2.2.1 k) (V k)) ∧ (∀ k, k < w → ∀ p, V k p = true → p < 12) ∧ (∀ k j p, k < w → j < w → V k p = true → V j p = true → k = j)
/-- the text on both sides -/
def TxR (t : S4) (τ : S7) (tl : Nat) (tx : Nat → Nat) : Prop := tl ≤ 120 ∧ t.2.1 = nI tl ∧ τ.2.2.2.2.2.2.2.2.2.2.2.2.2.2.2.2.1 = nI tl ∧ ∀ j, j < tl → t.1 j = nI (tx j) ∧ τ.2.2.2.2.2.2.2.2.2.2.2.2.2.2.2.1 j = nI (tx j) ∧ tx j ≤ 127
def RB (σ : S6) (τ : S7) (M : AM) (c : Nat) (H : Nat → AM) (w : Nat) (V : Nat → Nat → Bool) (tl : Nat) (tx : Nat → Nat) : Prop :=
  MR σ.1 M ∧ TR τ M ∧ (∀ j, j < 3 → σ.2.2.2.2.2.2 j = τ.1 j) ∧ HC σ.2.2.2.1 c H ∧ HM τ c H ∧ RunR σ.2.2.1 w V ∧ WR τ w V ∧ TxR σ.2.2.2.2.2.1 τ tl tx
def Rel (σ : S6) (τ : S7) : Prop := ∃ (M : AM) (c : Nat) (H : Nat → AM) (w : Nat) (V : Nat → Nat → Bool) (tl : Nat) (tx : Nat → Nat), RB σ τ M c H w V tl tx
theorem ref_up {f g : Nat → Int32} (h : ∀ j, j < 3 → f j = g j) {k : Nat} (hk : k < 3) : ∀ j, j < 3 → upd f k (f k + nI 1) j = upd g k (g k + nI 1) j := by
  intro j hj
  by_cases hjk : j = k
  · subst hjk; rw [upd_same, upd_same, h j hj]
  · rw [upd_ne _ _ _ _ hjk, upd_ne _ _ _ _ hjk, h j hj]
theorem m23 : ¬ mI3 = mI2 := by decide
theorem m24 : ¬ mI4 = mI2 := by decide
theorem m34 : ¬ mI4 = mI3 := by decide
theorem bad_ok {σ : S6} {τ : S7} (h : Rel σ τ) : ∃ σ1 τ1, fX6_refuse σ mI2 = some (mI2, σ1) ∧ fX7_bad τ = some (mI2, τ1) ∧ Rel σ1 τ1 := by
  obtain ⟨M, c, H, w, V, tl, tx, h1, h2, h3, h4⟩ := h
  refine ⟨(σ.1, σ.2.1, σ.2.2.1, σ.2.2.2.1, σ.2.2.2.2.1, σ.2.2.2.2.2.1, upd σ.2.2.2.2.2.2 0 (σ.2.2.2.2.2.2 0 + nI 1)), (upd τ.1 0 (τ.1 0 + nI 1), τ.2), by simp (disch := omega) only [fX6_refuse, l_0, l_1, l_2, l_3, l_4, l_5, l_6, l_7, l_8, l_9, l_10, l_11, l_12, l_13, l_14, l_15, l_16, l_17, l_18, l_19, l_20, l_21, l_24, l_28, l_31, l_32, l_33, l_45, l_47, l_48, l_57, l_59, l_84, l_95, l_96, l_100, l_112, l_119, l_120, l_127, l_140, l_700, l_840, l_999, l_4095, l_999999, ↓l_m1, ↓l_m2, ↓l_m3, ↓l_m4, ↓l_m10, ↓l_m10000, nI_leI, nI_ltI, nI_eq, mI_le, mI_lt, le_mI, lt_mI, mI_eq, eq_mI, nI_add, pk_mul, pk_sub, pk_div, nI_clamp, md_eq, Nat.zero_le, true_and, and_true, and_self, if_pos, if_neg, Option.bind_some, bnd_some, Sum.elim_inl, Sum.elim_inr, ↓reduceIte], by simp (disch := omega) only [fX7_bad, l_0, l_1, l_2, l_3, l_4, l_5, l_6, l_7, l_8, l_9, l_10, l_11, l_12, l_13, l_14, l_15, l_16, l_17, l_18, l_19, l_20, l_21, l_24, l_28, l_31, l_32, l_33, l_45, l_47, l_48, l_57, l_59, l_84, l_95, l_96, l_100, l_112, l_119, l_120, l_127, l_140, l_700, l_840, l_999, l_4095, l_999999, ↓l_m1, ↓l_m2, ↓l_m3, ↓l_m4, ↓l_m10, ↓l_m10000, nI_leI, nI_ltI, nI_eq, mI_le, mI_lt, le_mI, lt_mI, mI_eq, eq_mI, nI_add, pk_mul, pk_sub, pk_div, nI_clamp, md_eq, Nat.zero_le, true_and, and_true, and_self, if_pos, if_neg, Option.bind_some, bnd_some, Sum.elim_inl, Sum.elim_inr, ↓reduceIte], M, c, H, w, V, tl, tx, h1, h2, ref_up h3 (k := 0) (by omega), h4⟩
theorem no_ok {σ : S6} {τ : S7} (h : Rel σ τ) : ∃ σ1 τ1, fX6_refuse σ mI3 = some (mI3, σ1) ∧ fX7_no τ = some (mI3, τ1) ∧ Rel σ1 τ1 := by
  obtain ⟨M, c, H, w, V, tl, tx, h1, h2, h3, h4⟩ := h
  refine ⟨(σ.1, σ.2.1, σ.2.2.1, σ.2.2.2.1, σ.2.2.2.2.1, σ.2.2.2.2.2.1, upd σ.2.2.2.2.2.2 1 (σ.2.2.2.2.2.2 1 + nI 1)), (upd τ.1 1 (τ.1 1 + nI 1), τ.2), by simp (disch := omega) only [fX6_refuse, if_neg m23, l_0, l_1, l_2, l_3, l_4, l_5, l_6, l_7, l_8, l_9, l_10, l_11, l_12, l_13, l_14, l_15, l_16, l_17, l_18, l_19, l_20, l_21, l_24, l_28, l_31, l_32, l_33, l_45, l_47, l_48, l_57, l_59, l_84, l_95, l_96, l_100, l_112, l_119, l_120, l_127, l_140, l_700, l_840, l_999, l_4095, l_999999, ↓l_m1, ↓l_m2, ↓l_m3, ↓l_m4, ↓l_m10, ↓l_m10000, nI_leI, nI_ltI, nI_eq, mI_le, mI_lt, le_mI, lt_mI, mI_eq, eq_mI, nI_add, pk_mul, pk_sub, pk_div, nI_clamp, md_eq, Nat.zero_le, true_and, and_true, and_self, if_pos, if_neg, Option.bind_some, bnd_some, Sum.elim_inl, Sum.elim_inr, ↓reduceIte], by simp (disch := omega) only [fX7_no, l_0, l_1, l_2, l_3, l_4, l_5, l_6, l_7, l_8, l_9, l_10, l_11, l_12, l_13, l_14, l_15, l_16, l_17, l_18, l_19, l_20, l_21, l_24, l_28, l_31, l_32, l_33, l_45, l_47, l_48, l_57, l_59, l_84, l_95, l_96, l_100, l_112, l_119, l_120, l_127, l_140, l_700, l_840, l_999, l_4095, l_999999, ↓l_m1, ↓l_m2, ↓l_m3, ↓l_m4, ↓l_m10, ↓l_m10000, nI_leI, nI_ltI, nI_eq, mI_le, mI_lt, le_mI, lt_mI, mI_eq, eq_mI, nI_add, pk_mul, pk_sub, pk_div, nI_clamp, md_eq, Nat.zero_le, true_and, and_true, and_self, if_pos, if_neg, Option.bind_some, bnd_some, Sum.elim_inl, Sum.elim_inr, ↓reduceIte], M, c, H, w, V, tl, tx, h1, h2, ref_up h3 (k := 1) (by omega), h4⟩
theorem full_ok {σ : S6} {τ : S7} (h : Rel σ τ) : ∃ σ1 τ1, fX6_refuse σ mI4 = some (mI4, σ1) ∧ fX7_full τ = some (mI4, τ1) ∧ Rel σ1 τ1 := by
  obtain ⟨M, c, H, w, V, tl, tx, h1, h2, h3, h4⟩ := h
  refine ⟨(σ.1, σ.2.1, σ.2.2.1, σ.2.2.2.1, σ.2.2.2.2.1, σ.2.2.2.2.2.1, upd σ.2.2.2.2.2.2 2 (σ.2.2.2.2.2.2 2 + nI 1)), (upd τ.1 2 (τ.1 2 + nI 1), τ.2), by simp (disch := omega) only [fX6_refuse, if_neg m24, if_neg m34, l_0, l_1, l_2, l_3, l_4, l_5, l_6, l_7, l_8, l_9, l_10, l_11, l_12, l_13, l_14, l_15, l_16, l_17, l_18, l_19, l_20, l_21, l_24, l_28, l_31, l_32, l_33, l_45, l_47, l_48, l_57, l_59, l_84, l_95, l_96, l_100, l_112, l_119, l_120, l_127, l_140, l_700, l_840, l_999, l_4095, l_999999, ↓l_m1, ↓l_m2, ↓l_m3, ↓l_m4, ↓l_m10, ↓l_m10000, nI_leI, nI_ltI, nI_eq, mI_le, mI_lt, le_mI, lt_mI, mI_eq, eq_mI, nI_add, pk_mul, pk_sub, pk_div, nI_clamp, md_eq, Nat.zero_le, true_and, and_true, and_self, if_pos, if_neg, Option.bind_some, bnd_some, Sum.elim_inl, Sum.elim_inr, ↓reduceIte], by simp (disch := omega) only [fX7_full, l_0, l_1, l_2, l_3, l_4, l_5, l_6, l_7, l_8, l_9, l_10, l_11, l_12, l_13, l_14, l_15, l_16, l_17, l_18, l_19, l_20, l_21, l_24, l_28, l_31, l_32, l_33, l_45, l_47, l_48, l_57, l_59, l_84, l_95, l_96, l_100, l_112, l_119, l_120, l_127, l_140, l_700, l_840, l_999, l_4095, l_999999, ↓l_m1, ↓l_m2, ↓l_m3, ↓l_m4, ↓l_m10, ↓l_m10000, nI_leI, nI_ltI, nI_eq, mI_le, mI_lt, le_mI, lt_mI, mI_eq, eq_mI, nI_add, pk_mul, pk_sub, pk_div, nI_clamp, md_eq, Nat.zero_le, true_and, and_true, and_self, if_pos, if_neg, Option.bind_some, bnd_some, Sum.elim_inl, Sum.elim_inr, ↓reduceIte], M, c, H, w, V, tl, tx, h1, h2, ref_up h3 (k := 2) (by omega), h4⟩
/-- an int is within, or both sides say no -/
theorem wi (x : Int32) {k : Nat} (hk : k < 2 ^ 31) : (∃ j, j ≤ k ∧ x = nI j) ∨ (fX6_isWithin x (nI k) = some (nI 0) ∧ fX7_in x (nI 0) (nI k) = some (nI 0)) := by
  by_cases h0 : x < 0
  · refine Or.inr ⟨?_, ?_⟩
    · unfold fX6_isWithin; rw [if_pos h0]; rfl
    · unfold fX7_in; rw [if_pos (show x < nI 0 from h0)]; rfl
  · obtain ⟨j, hj, rfl⟩ := nI_of h0
    by_cases hjk : j ≤ k
    · exact Or.inl ⟨j, hjk, rfl⟩
    · refine Or.inr ⟨?_, ?_⟩
      · simp (disch := omega) only [fX6_isWithin, l_0, l_1, l_2, l_3, l_4, l_5, l_6, l_7, l_8, l_9, l_10, l_11, l_12, l_13, l_14, l_15, l_16, l_17, l_18, l_19, l_20, l_21, l_24, l_28, l_31, l_32, l_33, l_45, l_47, l_48, l_57, l_59, l_84, l_95, l_96, l_100, l_112, l_119, l_120, l_127, l_140, l_700, l_840, l_999, l_4095, l_999999, ↓l_m1, ↓l_m2, ↓l_m3, ↓l_m4, ↓l_m10, ↓l_m10000, nI_leI, nI_ltI, nI_eq, mI_le, mI_lt, le_mI, lt_mI, mI_eq, eq_mI, nI_add, pk_mul, pk_sub, pk_div, nI_clamp, md_eq, Nat.zero_le, true_and, and_true, and_self, if_pos, if_neg, Option.bind_some, bnd_some, Sum.elim_inl, Sum.elim_inr, ↓reduceIte]
      · simp (disch := omega) only [fX7_in, l_0, l_1, l_2, l_3, l_4, l_5, l_6, l_7, l_8, l_9, l_10, l_11, l_12, l_13, l_14, l_15, l_16, l_17, l_18, l_19, l_20, l_21, l_24, l_28, l_31, l_32, l_33, l_45, l_47, l_48, l_57, l_59, l_84, l_95, l_96, l_100, l_112, l_119, l_120, l_127, l_140, l_700, l_840, l_999, l_4095, l_999999, ↓l_m1, ↓l_m2, ↓l_m3, ↓l_m4, ↓l_m10, ↓l_m10000, nI_leI, nI_ltI, nI_eq, mI_le, mI_lt, le_mI, lt_mI, mI_eq, eq_mI, nI_add, pk_mul, pk_sub, pk_div, nI_clamp, md_eq, Nat.zero_le, true_and, and_true, and_self, if_pos, if_neg, Option.bind_some, bnd_some, Sum.elim_inl, Sum.elim_inr, ↓reduceIte]
theorem wi6 {j k : Nat} (h : j ≤ k) (hk : k < 2 ^ 31) : fX6_isWithin (nI j) (nI k) = some (nI 1) := by simp (disch := omega) only [fX6_isWithin, l_0, l_1, l_2, l_3, l_4, l_5, l_6, l_7, l_8, l_9, l_10, l_11, l_12, l_13, l_14, l_15, l_16, l_17, l_18, l_19, l_20, l_21, l_24, l_28, l_31, l_32, l_33, l_45, l_47, l_48, l_57, l_59, l_84, l_95, l_96, l_100, l_112, l_119, l_120, l_127, l_140, l_700, l_840, l_999, l_4095, l_999999, ↓l_m1, ↓l_m2, ↓l_m3, ↓l_m4, ↓l_m10, ↓l_m10000, nI_leI, nI_ltI, nI_eq, mI_le, mI_lt, le_mI, lt_mI, mI_eq, eq_mI, nI_add, pk_mul, pk_sub, pk_div, nI_clamp, md_eq, Nat.zero_le, true_and, and_true, and_self, if_pos, if_neg, Option.bind_some, bnd_some, Sum.elim_inl, Sum.elim_inr, ↓reduceIte]
theorem wi7 {j k : Nat} (h : j ≤ k) (hk : k < 2 ^ 31) : fX7_in (nI j) (nI 0) (nI k) = some (nI 1) := by simp (disch := omega) only [fX7_in, l_0, l_1, l_2, l_3, l_4, l_5, l_6, l_7, l_8, l_9, l_10, l_11, l_12, l_13, l_14, l_15, l_16, l_17, l_18, l_19, l_20, l_21, l_24, l_28, l_31, l_32, l_33, l_45, l_47, l_48, l_57, l_59, l_84, l_95, l_96, l_100, l_112, l_119, l_120, l_127, l_140, l_700, l_840, l_999, l_4095, l_999999, ↓l_m1, ↓l_m2, ↓l_m3, ↓l_m4, ↓l_m10, ↓l_m10000, nI_leI, nI_ltI, nI_eq, mI_le, mI_lt, le_mI, lt_mI, mI_eq, eq_mI, nI_add, pk_mul, pk_sub, pk_div, nI_clamp, md_eq, Nat.zero_le, true_and, and_true, and_self, if_pos, if_neg, Option.bind_some, bnd_some, Sum.elim_inl, Sum.elim_inr, ↓reduceIte]
theorem n10 : ¬ nI 1 = nI 0 := by decide
theorem wc (x : Int32) : (∃ j, j < 96 ∧ x = nI j) ∨ (fX6_isCell x = some (nI 0) ∧ fX7_isCell x = some (nI 0)) := by
  rcases wi x (k := 95) (by omega) with ⟨j, hj, rfl⟩ | ⟨a, b⟩
  · exact Or.inl ⟨j, by omega, rfl⟩
  · refine Or.inr ⟨?_, ?_⟩
    · simp only [fX6_isCell, l_0, l_1, l_95, a, bnd_some, true_or, if_true]
    · simp only [fX7_isCell, l_0, l_1, l_95, b, bnd_some, true_or, if_true]
theorem wc6 {j : Nat} (h : j < 96) : fX6_isCell (nI j) = some (nI 1) := by
  simp (disch := omega) only [fX6_isCell, l_0, l_1, l_95, wi6, bnd_some, or_true, if_true]
theorem wc7 {j : Nat} (h : j < 96) : fX7_isCell (nI j) = some (nI 1) := by
  simp (disch := omega) only [fX7_isCell, l_0, l_1, l_95, wi7, bnd_some, or_true, if_true]
theorem ws (x : Int32) : (∃ j, j ≤ 999 ∧ x = nI j) ∨ (fX6_isStrength x = some (nI 0) ∧ fX7_in x (nI 0) (nI 999) = some (nI 0)) := by
  rcases wi x (k := 999) (by omega) with ⟨j, hj, rfl⟩ | ⟨a, b⟩
  · exact Or.inl ⟨j, by omega, rfl⟩
  · refine Or.inr ⟨?_, b⟩
    simp only [fX6_isStrength, l_0, l_1, l_999, a, bnd_some, true_or, if_true]
theorem ws6 {j : Nat} (h : j ≤ 999) : fX6_isStrength (nI j) = some (nI 1) := by
  simp (disch := omega) only [fX6_isStrength, l_0, l_1, l_999, wi6, bnd_some, or_true, if_true]
theorem isPillar_no {τ : S7} {n : Nat} (h : τ.2.2.1 = nI n) (hn : n ≤ 12) {x : Int32} (hx : x < 0 ∨ ∃ j, j < 2 ^ 31 ∧ n ≤ j ∧ x = nI j) : fX7_isPillar τ x = some (nI 0) := by
  have : fX7_in x (nI 0) (nI n - nI 1) = some (nI 0) := by
    unfold fX7_in
    rcases hx with h0 | ⟨j, hj, hnj, rfl⟩
    · rw [if_pos (show x < nI 0 from h0)]; rfl
    · rw [if_neg (show ¬ nI j < nI 0 from nI_pos hj), if_pos]
      · rfl
      · rw [Int32.lt_iff_toInt_lt, pk_sub_toInt (by omega) (by omega), nI_toInt hj]
        omega
  simp only [fX7_isPillar, h, l_0, l_1, this, bnd_some, true_or, if_true]
theorem isPillar_ok {τ : S7} {n : Nat} (h : τ.2.2.1 = nI n) (hn : n ≤ 12) {j : Nat} (hj : j < n) : fX7_isPillar τ (nI j) = some (nI 1) := by
  have h7 := wi7 (j := j) (k := n - 1) (by omega) (by omega)
  simp (disch := omega) only [fX7_isPillar, h, l_0, l_1, pk_sub, h7, bnd_some, or_true, if_true]
/-- an int is a pillar's number, or both sides say no -/
theorem wp {σ : S6} {τ : S7} {M : AM} (h1 : MR σ.1 M) (h2 : TR τ M) (x : Int32) : (∃ j, j < M.n ∧ x = nI j ∧ fX1_hasPillar σ.1 x = some (nI 1) ∧ fX7_isPillar τ x = some (nI 1)) ∨ (fX1_hasPillar σ.1 x = some (nI 0) ∧ fX7_isPillar τ x = some (nI 0)) := by
  have hn := h1.1.1
  by_cases h0 : x < 0
  · exact Or.inr ⟨hasPillar_neg _ h0, isPillar_no h2.1 hn (Or.inl h0)⟩
  · obtain ⟨j, hj, rfl⟩ := nI_of h0
    have := hasPillar_ok h1 hj
    by_cases hjn : j < M.n
    · rw [if_pos hjn] at this
      exact Or.inl ⟨j, hjn, rfl, this, isPillar_ok h2.1 hn hjn⟩
    · rw [if_neg hjn] at this
      exact Or.inr ⟨this, isPillar_no h2.1 hn (Or.inr ⟨j, hj, by omega, rfl⟩)⟩
theorem stands_ok {τ : S7} {M : AM} (h : TR τ M) {j : Nat} (hj : j < 32) : fX7_stands τ (nI j) = some (bI (M.up j)) := by
  have hb := h.2.2.2.1 j hj
  cases hu : M.up j
  · rw [hu] at hb
    simp (disch := omega) only [fX7_stands, b_one, hb, bI_f, l_0, l_1, l_2, l_3, l_4, l_5, l_6, l_7, l_8, l_9, l_10, l_11, l_12, l_13, l_14, l_15, l_16, l_17, l_18, l_19, l_20, l_21, l_24, l_28, l_31, l_32, l_33, l_45, l_47, l_48, l_57, l_59, l_84, l_95, l_96, l_100, l_112, l_119, l_120, l_127, l_140, l_700, l_840, l_999, l_4095, l_999999, ↓l_m1, ↓l_m2, ↓l_m3, ↓l_m4, ↓l_m10, ↓l_m10000, nI_leI, nI_ltI, nI_eq, mI_le, mI_lt, le_mI, lt_mI, mI_eq, eq_mI, nI_add, pk_mul, pk_sub, pk_div, nI_clamp, md_eq, Nat.zero_le, true_and, and_true, and_self, if_pos, if_neg, Option.bind_some, bnd_some, Sum.elim_inl, Sum.elim_inr, ↓reduceIte]
  · rw [hu] at hb
    simp (disch := omega) only [fX7_stands, b_one, hb, bI_t, l_0, l_1, l_2, l_3, l_4, l_5, l_6, l_7, l_8, l_9, l_10, l_11, l_12, l_13, l_14, l_15, l_16, l_17, l_18, l_19, l_20, l_21, l_24, l_28, l_31, l_32, l_33, l_45, l_47, l_48, l_57, l_59, l_84, l_95, l_96, l_100, l_112, l_119, l_120, l_127, l_140, l_700, l_840, l_999, l_4095, l_999999, ↓l_m1, ↓l_m2, ↓l_m3, ↓l_m4, ↓l_m10, ↓l_m10000, nI_leI, nI_ltI, nI_eq, mI_le, mI_lt, le_mI, lt_mI, mI_eq, eq_mI, nI_add, pk_mul, pk_sub, pk_div, nI_clamp, md_eq, Nat.zero_le, true_and, and_true, and_self, if_pos, if_neg, Option.bind_some, bnd_some, Sum.elim_inl, Sum.elim_inr, ↓reduceIte]
theorem HC_OK {s : S3} {c : Nat} {H : Nat → AM} (h : HC s c H) : ∀ i, i < c → OK (H i) := by
  obtain ⟨_, _, x, _, _, h3⟩ := h
  exact fun i hi => (h3 i hi).1
/-- a call told S keeps what there was -/
theorem kept_ok {σ : S6} {τ : S7} {M : AM} {c : Nat} {H : Nat → AM} {w : Nat} {V : Nat → Nat → Bool} {tl : Nat} {tx : Nat → Nat} (h : RB σ τ M c H w V tl tx) : ∃ s1 f, fX3_keep σ.2.2.2.1 σ.1 = some s1 ∧ fX7_leavesState τ = some (τ.1, τ.2.1, τ.2.2.1, τ.2.2.2.1, τ.2.2.2.2.1, τ.2.2.2.2.2.1, τ.2.2.2.2.2.2.1, nI (nC c), f, τ.2.2.2.2.2.2.2.2.2) ∧ HC s1 (nC c) (nH c H M) ∧ HM (τ.1, τ.2.1, τ.2.2.1, τ.2.2.2.1, τ.2.2.2.2.1, τ.2.2.2.2.2.1, τ.2.2.2.2.2.2.1, nI (nC c), f, τ.2.2.2.2.2.2.2.2.2) (nC c) (nH c H M) := by
  obtain ⟨h1, h2, h3, h4, h5, h6⟩ := h
  obtain ⟨s1, e1, e2⟩ := keep_ok h4 h1
  obtain ⟨f, e3, e4⟩ := leavesState_ok h2 h1.1 h5 (HC_OK h4)
  exact ⟨s1, f, e1, e3, e2, e4⟩
